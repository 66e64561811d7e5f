import java.util.ArrayList;
import java.util.Comparator;
import java.util.IdentityHashMap;
import java.util.List;
import java.util.NoSuchElementException;
import java.util.Random;
import java.util.TreeMap;

/**
 * Runs of calls by chance (the seeds are fixed), each answer held against a slow model that is written from the
 * document's words alone: rows are lists that never change once they are shut, nothing is kept ready.
 */
public final class ModelTest {
    static final int NONE = -1;
    static final int THROWS_ELEMENT = -1000001;
    static final int THROWS_ARGUMENT = -1000002;

    record Thing(int key, int value) { }

    record Entry(int key, int rank, int place, Thing thing, int row) { }

    static final class Row {
        int state;
        List<Thing> things = new ArrayList<>();
        long shutAt;
    }

    static final class Level {
        List<Row> rows = new ArrayList<>();
        boolean merges;
        boolean bare;
        Row young;
        Row elder;
        Row open;
        List<Thing> leftYoung = new ArrayList<>();
        List<Thing> leftElder = new ArrayList<>();
        int through;
        int came;
    }

    static final class Stop {
        int level;
        int row;
        int low;
        int high;
        int fell;
        int looks;
    }

    static final class Model {
        List<Level> levels = new ArrayList<>();
        List<Integer> tape = new ArrayList<>();
        List<Integer> tolls = new ArrayList<>();
        Row[][][] views = new Row[3][][];
        int budget = 6;
        int stride = 4;
        int acts;
        int steps;
        int forced;
        int most;
        int replaced;
        int signsGone;
        long time;

        Model() {
            for (int k = 0; k < 9; k++) {
                Level level = new Level();
                for (int r = 0; r < (k == 8 ? 3 : 2); r++) {
                    level.rows.add(new Row());
                }
                levels.add(level);
            }
        }

        Model copy() {
            Model c = new Model();
            for (int k = 0; k < 9; k++) {
                Level from = levels.get(k);
                Level to = c.levels.get(k);
                to.rows.clear();
                for (Row row : from.rows) {
                    to.rows.add(row.state == 0 ? new Row() : row);
                }
                to.merges = from.merges;
                to.bare = from.bare;
                to.young = from.young;
                to.elder = from.elder;
                to.leftYoung = new ArrayList<>(from.leftYoung);
                to.leftElder = new ArrayList<>(from.leftElder);
                to.through = from.through;
                to.came = from.came;
            }
            for (int k = 0; k < 9; k++) {
                if (levels.get(k).merges) {
                    Row open = new Row();
                    open.state = 1;
                    open.things.addAll(levels.get(k).open.things);
                    List<Row> target = c.levels.get(Math.min(k + 1, 8)).rows;
                    target.set(target.indexOf(levels.get(k).open), open);
                    c.levels.get(k).open = open;
                }
            }
            c.budget = budget;
            c.stride = stride;
            c.time = time;
            return c;
        }

        List<Row> shutRows(int k) {
            List<Row> shut = new ArrayList<>();
            if (k >= 0 && k <= 8) {
                for (Row row : levels.get(k).rows) {
                    if (row.state == 2) {
                        shut.add(row);
                    }
                }
            }
            shut.sort(Comparator.comparingLong((Row row) -> -row.shutAt));
            return shut;
        }

        List<Row> allShut() {
            List<Row> all = new ArrayList<>();
            for (int k = 0; k < 9; k++) {
                all.addAll(shutRows(k));
            }
            return all;
        }

        void ask() {
            for (int k = 8; k >= 0; k--) {
                Level level = levels.get(k);
                List<Row> shut = shutRows(k);
                if (level.merges || shut.size() != 2) {
                    continue;
                }
                for (Row row : levels.get(Math.min(k + 1, 8)).rows) {
                    if (row.state == 0) {
                        level.merges = true;
                        level.open = row;
                        row.state = 1;
                        row.things = new ArrayList<>();
                        level.young = shut.get(0);
                        level.elder = shut.get(1);
                        level.leftYoung = new ArrayList<>(level.young.things);
                        level.leftElder = new ArrayList<>(level.elder.things);
                        level.bare = true;
                        for (int deep = k + 1; deep < 9; deep++) {
                            level.bare &= shutRows(deep).isEmpty();
                        }
                        break;
                    }
                }
            }
        }

        boolean step() {
            for (int k = 0; k < 9; k++) {
                if (levels.get(k).merges) {
                    stepOf(k);
                    steps++;
                    return true;
                }
            }
            return false;
        }

        void stepOf(int k) {
            Level level = levels.get(k);
            List<Thing> a = level.leftYoung;
            List<Thing> b = level.leftElder;
            Thing goes;
            if (!a.isEmpty() && !b.isEmpty() && a.get(0).key() == b.get(0).key()) {
                goes = a.remove(0);
                b.remove(0);
                replaced++;
            } else if (b.isEmpty() || !a.isEmpty() && a.get(0).key() < b.get(0).key()) {
                goes = a.remove(0);
            } else {
                goes = b.remove(0);
            }
            if (goes.value() == NONE && level.bare) {
                signsGone++;
            } else {
                level.open.things.add(goes);
                level.came++;
            }
            if (a.isEmpty() && b.isEmpty()) {
                List<Row> own = level.rows;
                own.set(own.indexOf(level.young), new Row());
                own.set(own.indexOf(level.elder), new Row());
                level.open.state = level.open.things.isEmpty() ? 0 : 2;
                level.open.shutAt = ++time;
                level.merges = false;
                level.through++;
                ask();
            }
        }

        boolean hasFreeFirst() {
            return levels.get(0).rows.get(0).state == 0 || levels.get(0).rows.get(1).state == 0;
        }

        int act(int key, int value) {
            int took = 0;
            while (!hasFreeFirst()) {
                if (!step()) {
                    throw new AssertionError("none merges, yet there is no room");
                }
                took++;
                forced++;
            }
            Row row = levels.get(0).rows.get(0).state == 0 ? levels.get(0).rows.get(0) : levels.get(0).rows.get(1);
            row.things = new ArrayList<>(List.of(new Thing(key, value)));
            row.state = 2;
            row.shutAt = ++time;
            ask();
            for (int i = 0; i < budget && step(); i++) {
                took++;
            }
            acts++;
            most = Math.max(most, took);
            tolls.add(0, took);
            return took;
        }

        static Thing thingOf(Row row, int key) {
            for (Thing thing : row.things) {
                if (thing.key() == key) {
                    return thing;
                }
            }
            return null;
        }

        static TreeMap<Integer, Integer> there(List<Row> order) {
            TreeMap<Integer, Integer> map = new TreeMap<>();
            for (int key = 0; key < 200; key++) {
                for (Row row : order) {
                    Thing thing = thingOf(row, key);
                    if (thing != null) {
                        if (thing.value() != NONE) {
                            map.put(key, thing.value());
                        }
                        break;
                    }
                }
            }
            return map;
        }

        /** Within one call nothing changes, so that what was worked out once is right for all of it. */
        final IdentityHashMap<Row, List<Entry>> known = new IdentityHashMap<>();

        List<Entry> entries(int k, Row row, boolean plain) {
            if (!plain && known.containsKey(row)) {
                return known.get(row);
            }
            List<Entry> all = new ArrayList<>();
            for (Thing thing : row.things) {
                all.add(new Entry(thing.key(), 0, NONE, thing, NONE));
            }
            if (!plain && k < 8 && shutRows(k).get(0) == row) {
                int rank = 1;
                for (Row behind : shutRows(k + 1)) {
                    List<Entry> deep = entries(k + 1, behind, false);
                    for (int place = stride - 1; place < deep.size(); place += stride) {
                        all.add(new Entry(deep.get(place).key(), rank, place, null,
                                levels.get(k + 1).rows.indexOf(behind)));
                    }
                    rank++;
                }
            }
            all.sort(Comparator.comparingInt(Entry::key).thenComparingInt(Entry::rank).thenComparingInt(Entry::place));
            if (!plain) {
                known.put(row, all);
            }
            return all;
        }

        List<Stop> go(int key, boolean plain, boolean onward) {
            List<Stop> stops = new ArrayList<>();
            int fellInLead = NONE;
            List<Entry> lead = null;
            for (int k = 0; k < 9; k++) {
                int fellHere = NONE;
                List<Entry> leadHere = null;
                for (Row row : shutRows(k)) {
                    List<Entry> in = entries(k, row, plain);
                    Stop stop = new Stop();
                    stop.level = k;
                    stop.row = levels.get(k).rows.indexOf(row);
                    stop.low = 0;
                    stop.high = in.size();
                    if (lead != null && !plain) {
                        for (int i = 0; i < lead.size(); i++) {
                            Entry e = lead.get(i);
                            if (e.rank() > 0 && e.row() == stop.row && i < fellInLead) {
                                stop.low = e.place() + 1;
                            }
                        }
                        for (int i = lead.size() - 1; i >= fellInLead; i--) {
                            Entry e = lead.get(i);
                            if (e.rank() > 0 && e.row() == stop.row) {
                                stop.high = e.place();
                            }
                        }
                    }
                    int low = stop.low;
                    int high = stop.high;
                    while (low < high) {
                        int half = (low + high) / 2;
                        stop.looks++;
                        if (in.get(half).key() < key) {
                            low = half + 1;
                        } else {
                            high = half;
                        }
                    }
                    stop.fell = low;
                    stops.add(stop);
                    if (leadHere == null) {
                        leadHere = in;
                        fellHere = low;
                    }
                    if (low < in.size()) {
                        stop.looks++;
                        if (in.get(low).key() == key && in.get(low).rank() == 0 && !onward) {
                            return stops;
                        }
                    }
                }
                lead = leadHere;
                fellInLead = fellHere;
            }
            return stops;
        }

        int looks(int key, boolean plain) {
            int sum = 0;
            for (Stop stop : go(key, plain, false)) {
                sum += stop.looks;
            }
            return sum;
        }

        static boolean key(int key) {
            return key >= 0 && key <= 199;
        }

        boolean isRow(int level, int row) {
            return level >= 0 && level <= 8 && row >= 0 && row < levels.get(level).rows.size();
        }

        boolean isShut(int level, int row) {
            return isRow(level, row) && levels.get(level).rows.get(row).state == 2;
        }

        List<Row> viewOrder(int view) {
            List<Row> order = new ArrayList<>();
            for (int k = 0; k < 9; k++) {
                List<Row> own = new ArrayList<>();
                for (Row row : views[view][k]) {
                    if (row != null) {
                        own.add(row);
                    }
                }
                own.sort(Comparator.comparingLong((Row row) -> -row.shutAt));
                order.addAll(own);
            }
            return order;
        }

        boolean taken(int view) {
            return view >= 0 && view <= 2 && views[view] != null;
        }

        void clearRows() {
            for (Level level : levels) {
                level.merges = false;
                for (int r = 0; r < level.rows.size(); r++) {
                    level.rows.set(r, new Row());
                }
            }
        }

        int answer(String name, int[] a) {
            known.clear();
            switch (name) {
                case "feed": {
                    if (tape.size() + 20 > 200) {
                        return NONE;
                    }
                    for (int number : a) {
                        tape.add(number >>> 24);
                        tape.add(number >>> 16 & 255);
                        tape.add(number >>> 8 & 255);
                        tape.add(number & 255);
                    }
                    return tape.size();
                }
                case "batch": {
                    if (a[0] < 0 || a[0] > tape.size() || (a[0] & 1) == 1) {
                        return NONE;
                    }
                    int done = 0;
                    for (int i = 0; i < a[0]; i += 2) {
                        if (tape.get(i) <= 199) {
                            act(tape.get(i), tape.get(i + 1) == 255 ? NONE : tape.get(i + 1));
                            done++;
                        }
                    }
                    tape.clear();
                    return done;
                }
                case "put": return key(a[0]) && a[1] >= 0 && a[1] <= 999 ? act(a[0], a[1]) : NONE;
                case "drop": return key(a[0]) ? act(a[0], NONE) : NONE;
                case "steps": {
                    if (a[0] < 0 || a[0] > 1000) {
                        return NONE;
                    }
                    int took = 0;
                    while (took < a[0] && step()) {
                        took++;
                    }
                    return took;
                }
                case "budget": {
                    int was = budget;
                    if (a[0] < 0 || a[0] > 40) {
                        return NONE;
                    }
                    budget = a[0];
                    return was;
                }
                case "stride": {
                    int was = stride;
                    if (a[0] < 2 || a[0] > 8) {
                        return NONE;
                    }
                    stride = a[0];
                    return was;
                }
                case "find": return there(allShut()).getOrDefault(a[0], NONE);
                case "looks": return key(a[0]) ? looks(a[0], a[1] == 1) : THROWS_ELEMENT;
                case "falls":
                case "bounds": {
                    if (!key(a[0]) || !isShut(a[1], a[2])) {
                        return THROWS_ELEMENT;
                    }
                    for (Stop stop : go(a[0], false, true)) {
                        if (stop.level == a[1] && stop.row == a[2]) {
                            return name.equals("falls") ? stop.fell : a[3] == 1 ? stop.high : stop.low;
                        }
                    }
                    return -77;
                }
                case "route": {
                    if (!key(a[0]) || a[2] < 0 || a[2] > 5) {
                        return THROWS_ELEMENT;
                    }
                    List<Stop> stops = go(a[0], false, false);
                    if (a[1] == NONE) {
                        return stops.size();
                    }
                    if (a[1] < 0 || a[1] >= stops.size()) {
                        return THROWS_ELEMENT;
                    }
                    Stop s = stops.get(a[1]);
                    return new int[] {s.level, s.row, s.low, s.high, s.fell, s.looks}[a[2]];
                }
                case "next": {
                    if (a[0] < -1 || a[0] > 199) {
                        return THROWS_ELEMENT;
                    }
                    Integer above = there(allShut()).higherKey(a[0]);
                    return above == null ? NONE : above;
                }
                case "nth": {
                    List<Integer> keys = new ArrayList<>(there(allShut()).keySet());
                    return a[0] < 0 || a[0] >= keys.size() ? THROWS_ELEMENT : keys.get(a[0]);
                }
                case "waste": return waste(a[0]);
                case "many": {
                    if (!key(a[0]) || !key(a[1])) {
                        return THROWS_ELEMENT;
                    }
                    return a[0] > a[1] ? 0 : there(allShut()).subMap(a[0], true, a[1], true).size();
                }
                case "trace": return trace(a[0], a[1]);
                case "level": return level(a[0], a[1]);
                case "row": return row(a[0], a[1], a[2]);
                case "thing": {
                    if (!isRow(a[0], a[1]) || a[3] < 0 || a[3] > 1) {
                        return THROWS_ELEMENT;
                    }
                    List<Thing> things = levels.get(a[0]).rows.get(a[1]).things;
                    if (a[2] < 0 || a[2] >= things.size()) {
                        return THROWS_ELEMENT;
                    }
                    return a[3] == 0 ? things.get(a[2]).key() : things.get(a[2]).value();
                }
                case "entry": return entry(a[0], a[1], a[2], a[3]);
                case "count": return count(a[0]);
                case "toll": return a[0] < 0 || a[0] >= Math.min(40, tolls.size()) ? THROWS_ELEMENT : tolls.get(a[0]);
                case "ahead": {
                    if (a[1] < 0 || a[1] > 4) {
                        return THROWS_ELEMENT;
                    }
                    if (a[0] < 0 || a[0] > 64) {
                        return THROWS_ARGUMENT;
                    }
                    Model m = copy();
                    m.comeAhead(0, a[0]);
                    return new int[] {m.steps, m.forced, m.most, m.allShut().size(), there(m.allShut()).size()}[a[1]];
                }
                case "calm": {
                    if (a[0] < 0 || a[0] > 64) {
                        return THROWS_ARGUMENT;
                    }
                    for (int b = 0; b <= 40; b++) {
                        Model m = copy();
                        m.budget = b;
                        m.comeAhead(0, a[0]);
                        if (m.forced == 0) {
                            return b;
                        }
                    }
                    return NONE;
                }
                case "due": {
                    if (a[0] < 0 || a[0] > 8) {
                        return THROWS_ELEMENT;
                    }
                    Model m = copy();
                    for (int i = 0; i < 64; i++) {
                        m.comeAhead(i, i + 1);
                        if (m.levels.get(a[0]).through > levels.get(a[0]).through) {
                            return i + 1;
                        }
                    }
                    return NONE;
                }
                case "pack": {
                    TreeMap<Integer, Integer> now = there(allShut());
                    clearRows();
                    if (!now.isEmpty()) {
                        int k = 0;
                        while (Math.pow(2, k) < now.size()) {
                            k++;
                        }
                        Row row = levels.get(k).rows.get(0);
                        now.forEach((key, value) -> row.things.add(new Thing(key, value)));
                        row.state = 2;
                        row.shutAt = ++time;
                    }
                    return now.size();
                }
                case "view": {
                    if (a[0] < 0 || a[0] > 2) {
                        return NONE;
                    }
                    Row[][] kept = new Row[9][3];
                    for (int k = 0; k < 9; k++) {
                        for (int r = 0; r < levels.get(k).rows.size(); r++) {
                            kept[k][r] = isShut(k, r) ? levels.get(k).rows.get(r) : null;
                        }
                    }
                    views[a[0]] = kept;
                    return allShut().size();
                }
                case "leave": {
                    if (!taken(a[0])) {
                        return NONE;
                    }
                    int had = viewOrder(a[0]).size();
                    views[a[0]] = null;
                    return had;
                }
                case "seen":
                    return !taken(a[0]) || !key(a[1]) ? THROWS_ELEMENT : there(viewOrder(a[0])).getOrDefault(a[1], NONE);
                case "against": return against(a[0], a[1]);
                case "between": {
                    if (!taken(a[0]) || !taken(a[1])) {
                        return THROWS_ELEMENT;
                    }
                    TreeMap<Integer, Integer> one = there(viewOrder(a[0]));
                    TreeMap<Integer, Integer> two = there(viewOrder(a[1]));
                    int differ = 0;
                    for (int key = 0; key < 200; key++) {
                        differ += one.getOrDefault(key, NONE).equals(two.getOrDefault(key, NONE)) ? 0 : 1;
                    }
                    return differ;
                }
                case "restore": {
                    if (!taken(a[0])) {
                        return NONE;
                    }
                    clearRows();
                    for (int k = 0; k < 9; k++) {
                        for (int r = 0; r < levels.get(k).rows.size(); r++) {
                            if (views[a[0]][k][r] != null) {
                                levels.get(k).rows.set(r, views[a[0]][k][r]);
                            }
                        }
                    }
                    ask();
                    return allShut().size();
                }
                default: return -99;
            }
        }

        void comeAhead(int from, int to) {
            for (int i = from; i < to; i++) {
                act((37 * i + 11) % 200, 0);
            }
        }

        int waste(int what) {
            List<Row> order = allShut();
            int all = 0;
            int byNone = 0;
            int lone = 0;
            for (int i = 0; i < order.size(); i++) {
                for (Thing thing : order.get(i).things) {
                    all++;
                    boolean ahead = false;
                    boolean behind = false;
                    for (int j = 0; j < order.size(); j++) {
                        boolean has = thingOf(order.get(j), thing.key()) != null;
                        ahead |= j < i && has;
                        behind |= j > i && has;
                    }
                    byNone += ahead ? 1 : 0;
                    lone += !ahead && !behind && thing.value() == NONE ? 1 : 0;
                }
            }
            return what == 0 ? byNone : what == 1 ? lone : what == 2 ? all - there(order).size() : THROWS_ELEMENT;
        }

        int trace(int key, int what) {
            if (!key(key) || what < 0 || what > 2) {
                return THROWS_ELEMENT;
            }
            int in = 0;
            int level = NONE;
            int number = NONE;
            for (int k = 0; k < 9; k++) {
                for (Row row : shutRows(k)) {
                    if (thingOf(row, key) != null) {
                        if (in == 0) {
                            level = k;
                            number = levels.get(k).rows.indexOf(row);
                        }
                        in++;
                    }
                }
            }
            return what == 0 ? in : what == 1 ? level : number;
        }

        int level(int k, int what) {
            if (k < 0 || k > 8) {
                return THROWS_ELEMENT;
            }
            Level level = levels.get(k);
            List<Row> shut = shutRows(k);
            int things = 0;
            for (Row row : shut) {
                things += row.things.size();
            }
            switch (what) {
                case 0: return shut.size();
                case 1: return level.merges ? 1 : 0;
                case 2: return things;
                case 3: return level.through;
                case 4: return level.came;
                case 5: return level.merges ? level.leftYoung.size() + level.leftElder.size() : 0;
                case 6: return level.merges && level.bare ? 1 : 0;
                case 7: return shut.isEmpty() ? NONE : level.rows.indexOf(shut.get(0));
                case 8: return shut.isEmpty() ? 0 : marks(k, shut.get(0));
                default: return THROWS_ELEMENT;
            }
        }

        int marks(int k, Row row) {
            return entries(k, row, false).size() - row.things.size();
        }

        int row(int k, int r, int what) {
            if (!isRow(k, r)) {
                return THROWS_ELEMENT;
            }
            Row row = levels.get(k).rows.get(r);
            switch (what) {
                case 0: return row.state;
                case 1: return row.things.size();
                case 2: return row.state == 2 ? entries(k, row, false).size() : 0;
                case 3: return row.state == 2 ? marks(k, row) : 0;
                case 4: return (int) row.things.stream().filter(thing -> thing.value() == NONE).count();
                case 5: return row.state == 2 ? allShut().indexOf(row) : NONE;
                default: return THROWS_ELEMENT;
            }
        }

        int entry(int k, int r, int i, int what) {
            if (!isShut(k, r)) {
                return THROWS_ELEMENT;
            }
            List<Entry> all = entries(k, levels.get(k).rows.get(r), false);
            if (i < 0 || i >= all.size()) {
                return THROWS_ELEMENT;
            }
            Entry e = all.get(i);
            switch (what) {
                case 0: return e.key();
                case 1: return e.rank() > 0 ? 2 : e.thing().value() == NONE ? 1 : 0;
                case 2: return e.rank() > 0 ? e.row() : e.thing().value();
                case 3: return e.place();
                default: return THROWS_ELEMENT;
            }
        }

        int mostLooks(boolean plain) {
            int max = 0;
            for (int key = 0; key < 200; key++) {
                max = Math.max(max, looks(key, plain));
            }
            return max;
        }

        int count(int what) {
            List<Row> order = allShut();
            switch (what) {
                case 0: return acts;
                case 1: return steps;
                case 2: return forced;
                case 3: return most;
                case 4: return replaced;
                case 5: return signsGone;
                case 6: return there(order).size();
                case 7: return order.size();
                case 8: return order.stream().mapToInt(row -> row.things.size()).sum();
                case 9: {
                    int deepest = NONE;
                    for (int k = 0; k < 9; k++) {
                        deepest = shutRows(k).isEmpty() ? deepest : k;
                    }
                    return deepest;
                }
                case 10: return budget;
                case 11: return stride;
                case 12: return (int) levels.stream().filter(level -> level.merges).count();
                case 13: return tape.size();
                case 14: return mostLooks(false);
                case 15: return mostLooks(true);
                default: return THROWS_ELEMENT;
            }
        }

        int against(int view, int what) {
            if (!taken(view) || what < 0 || what > 3) {
                return THROWS_ELEMENT;
            }
            TreeMap<Integer, Integer> then = there(viewOrder(view));
            TreeMap<Integer, Integer> now = there(allShut());
            int lost = 0;
            int fresh = 0;
            for (int key = 0; key < 200; key++) {
                lost += then.containsKey(key) && !then.get(key).equals(now.get(key)) ? 1 : 0;
                fresh += now.containsKey(key) && !then.containsKey(key) ? 1 : 0;
            }
            int yet = 0;
            for (Row row : viewOrder(view)) {
                yet += allShut().contains(row) ? 1 : 0;
            }
            return new int[] {then.size(), lost, fresh, yet}[what];
        }
    }

    static int ask(RowStore x, String name, int[] a) {
        try {
            switch (name) {
                case "feed": return x.feed(a[0], a[1], a[2], a[3], a[4]);
                case "batch": return x.batch(a[0]);
                case "put": return x.put(a[0], a[1]);
                case "drop": return x.drop(a[0]);
                case "steps": return x.steps(a[0]);
                case "budget": return x.budget(a[0]);
                case "stride": return x.stride(a[0]);
                case "find": return x.find(a[0]);
                case "looks": return x.looks(a[0], a[1] == 1);
                case "falls": return x.falls(a[0], a[1], a[2]);
                case "bounds": return x.bounds(a[0], a[1], a[2], a[3] == 1);
                case "route": return x.route(a[0], a[1], a[2]);
                case "next": return x.next(a[0]);
                case "nth": return x.nth(a[0]);
                case "waste": return x.waste(a[0]);
                case "many": return x.many(a[0], a[1]);
                case "trace": return x.trace(a[0], a[1]);
                case "level": return x.level(a[0], a[1]);
                case "row": return x.row(a[0], a[1], a[2]);
                case "thing": return x.thing(a[0], a[1], a[2], a[3]);
                case "entry": return x.entry(a[0], a[1], a[2], a[3]);
                case "count": return x.count(a[0]);
                case "toll": return x.toll(a[0]);
                case "ahead": return x.ahead(a[0], a[1]);
                case "calm": return x.calm(a[0]);
                case "due": return x.due(a[0]);
                case "pack": return x.pack();
                case "view": return x.view(a[0]);
                case "leave": return x.leave(a[0]);
                case "seen": return x.seen(a[0], a[1]);
                case "against": return x.against(a[0], a[1]);
                case "between": return x.between(a[0], a[1]);
                case "restore": return x.restore(a[0]);
                default: throw new AssertionError(name);
            }
        } catch (NoSuchElementException e) {
            return THROWS_ELEMENT;
        } catch (IllegalArgumentException e) {
            return THROWS_ARGUMENT;
        }
    }

    /** What the arguments of a call are: see argument(). */
    static final String[] QUERIES = {
        "find k", "looks k b", "falls k l r", "bounds k l r b", "route k i6 w5", "next k", "nth i99", "waste w2",
        "many k k", "trace k w2", "level l w8", "row l r w5", "thing l r i64 w1", "entry l r i99 w3", "count w15",
        "toll i42", "ahead i64 w4", "calm i64", "due l", "seen v k", "against v w3", "between v v"};
    static final String[] CHANGES = {
        "put k x", "put k x", "put k x", "put k x", "drop k", "drop k", "steps s", "budget b", "stride t", "view v",
        "restore v", "leave v", "pack"};

    final Random chance;
    final int keys;

    ModelTest(long seed) {
        chance = new Random(seed);
        keys = new int[] {200, 200, 60, 12, 3}[(int) (seed % 5)];
    }

    int argument(String kind, String name) {
        if (chance.nextInt(60) == 0) {
            int[] odd = {-1, -2, 200, 1000, 1001, 65, 64, 41, 40, 9, 8, 3, 2, Integer.MAX_VALUE, Integer.MIN_VALUE};
            return odd[chance.nextInt(odd.length)];
        }
        switch (kind.charAt(0)) {
            case 'k': return chance.nextInt(keys) * (200 / keys);
            case 'x': return chance.nextInt(1000);
            case 'b': return name.equals("budget") ? chance.nextInt(chance.nextBoolean() ? 41 : 8) : chance.nextInt(2);
            case 't': return 2 + chance.nextInt(7);
            case 's': return chance.nextInt(chance.nextBoolean() ? 1001 : 20);
            case 'l': return chance.nextInt(9);
            case 'r': return chance.nextInt(8) == 0 ? 2 : chance.nextInt(2);
            case 'v': return chance.nextInt(3);
            case 'i': return chance.nextInt(Integer.parseInt(kind.substring(1)) + 1) - chance.nextInt(2);
            case 'w': return chance.nextInt(Integer.parseInt(kind.substring(1)) + 1);
            default: throw new AssertionError(kind);
        }
    }

    int wrong = 0;

    void call(RowStore x, Model m, String name, int... a) {
        int want = m.answer(name, a);
        int got = ask(x, name, a);
        if (got != want && wrong++ < 5) {
            System.out.println(name + java.util.Arrays.toString(a) + " answered " + got + ", due is " + want);
        }
    }

    void callBy(RowStore x, Model m, String form) {
        String[] parts = form.split(" ");
        int[] a = new int[parts.length - 1];
        for (int i = 0; i < a.length; i++) {
            a[i] = argument(parts[i + 1], parts[0]);
        }
        call(x, m, parts[0], a);
    }

    /** Many acts by few calls: a full tape and a batch of it. */
    void batch(RowStore x, Model m) {
        int feeds = 1 + chance.nextInt(11);
        for (int i = 0; i < feeds; i++) {
            int[] a = new int[5];
            for (int j = 0; j < 20; j++) {
                boolean isKey = j % 2 == 0;
                int b = isKey ? argument("k", "") & 255 : chance.nextInt(4) == 0 ? 255 : chance.nextInt(256);
                a[j / 4] = a[j / 4] << 8 | b;
            }
            call(x, m, "feed", a);
        }
        int most = Math.min(200, feeds * 20);
        call(x, m, "batch", chance.nextInt(4) == 0 ? chance.nextInt(most + 3) - 1 : most);
    }

    void run() {
        RowStore x = new RowStore();
        Model m = new Model();
        int rarely = 20 + chance.nextInt(200);
        boolean heavy = chance.nextBoolean();
        for (int calls = 0; calls < 500; calls++) {
            int dice = chance.nextInt(100);
            if (heavy && dice < 8) {
                batch(x, m);
                calls += 10;
            } else if (dice < 50) {
                String form = CHANGES[chance.nextInt(chance.nextInt(rarely) == 0 ? CHANGES.length : CHANGES.length - 3)];
                callBy(x, m, form);
            } else {
                callBy(x, m, QUERIES[chance.nextInt(QUERIES.length)]);
            }
        }
        compareAll(x, m);
    }

    /** Rows as full as they can be, with as many marks as there can be. */
    void runFull(int budget, int drops) {
        RowStore x = new RowStore();
        Model m = new Model();
        call(x, m, "stride", 2);
        call(x, m, "budget", budget);
        int key = 0;
        for (int batches = 0; batches < 16; batches++) {
            for (int feeds = 0; feeds < 10; feeds++) {
                int[] a = new int[5];
                for (int i = 0; i < 10; i++) {
                    int value = key % 7 < drops ? 255 : batches;
                    a[i / 2] = a[i / 2] << 16 | key << 8 | value;
                    key = (key + 1) % 200;
                }
                call(x, m, "feed", a);
            }
            call(x, m, "batch", 200);
            compareAll(x, m);
        }
    }

    /** All that can be seen, at the end of a run. */
    void compareAll(RowStore x, Model m) {
        for (int what = 0; what < 16; what++) {
            call(x, m, "count", what);
        }
        for (int k = 0; k < 9; k++) {
            for (int what = 0; what < 9; what++) {
                call(x, m, "level", k, what);
            }
            for (int r = 0; r < 3; r++) {
                for (int what = 0; what < 6; what++) {
                    call(x, m, "row", k, r, what);
                }
                for (int what = 0; what < 4; what++) {
                    for (int i = 0; i < m.row(k, r, 2); i++) {
                        call(x, m, "entry", k, r, i, what);
                    }
                }
            }
        }
        for (int key = 0; key < 200; key++) {
            call(x, m, "find", key);
            call(x, m, "route", key, NONE, 0);
            for (int what = 0; what < 6; what++) {
                call(x, m, "route", key, chance.nextInt(10), what);
            }
        }
    }

    public static void main(String[] args) {
        int runs = args.length > 0 ? Integer.parseInt(args[0]) : 60;
        int wrong = 0;
        for (int seed = 0; seed < runs; seed++) {
            ModelTest test = new ModelTest(seed);
            test.run();
            if (test.wrong > 0) {
                System.out.println("seed " + seed + ": " + test.wrong + " wrong");
            }
            wrong += test.wrong;
        }
        for (int budget = 0; budget <= 10; budget += 2) {
            ModelTest test = new ModelTest(0);
            test.runFull(budget, budget % 4);
            wrong += test.wrong;
        }
        if (wrong > 0) {
            System.exit(1);
        }
    }
}
