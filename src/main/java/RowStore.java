import java.util.Arrays;
import java.util.NoSuchElementException;

/**
 * A store of levels of rows that are merged step by step, as the document's promises say.
 *
 * All rows are made once, in the constructor, and used again by every call: no call makes an object,
 * but for an exception that it throws.
 */
public final class RowStore {
    public static final int NONE = -1;

    private static final int KEYS = 200;
    private static final int VALUES = 1000;
    private static final int LEVELS = 9;
    private static final int LAST_LEVEL = 8;
    /** Two rows of each level and a third one of the last. */
    private static final int ROWS = 19;
    private static final int VIEWS = 3;

    /** Rows are numbered through all levels: the first one of each level, the one behind its last, a row's level. */
    private static final int[] FIRST_ROW = {0, 2, 4, 6, 8, 10, 12, 14, 16};
    private static final int[] END_ROW = {2, 4, 6, 8, 10, 12, 14, 16, 19};
    private static final int[] LEVEL_OF = {0, 0, 1, 1, 2, 2, 3, 3, 4, 4, 5, 5, 6, 6, 7, 7, 8, 8, 8};

    private static final int FREE = 0;
    private static final int OPEN = 1;
    private static final int SHUT = 2;

    private static final int FIRST_BUDGET = 6;
    private static final int MOST_BUDGET = 40;
    private static final int FIRST_STRIDE = 4;
    private static final int LEAST_STRIDE = 2;
    private static final int MOST_STRIDE = 8;
    private static final int MOST_STEPS = 1000;
    private static final int MOST_AHEAD = 64;
    private static final int TAPE_ROOM = 200;
    private static final int FEED_BYTES = 20;
    private static final int DROP_BYTE = 255;
    private static final int TOLLS = 40;

    /** Far above what a row of a few hundred entries needs. */
    private static final int MOST_HALVES = 40;
    /** Far above all things that the rows can hold, each gone through at every level. */
    private static final int MOST_FORCED = 1000000;

    private final Engine engine = new Engine();
    /** A copy on which acts to come are tried. */
    private final Engine trial = new Engine();
    private final Shelf[] views = new Shelf[VIEWS];
    private final boolean[] taken = new boolean[VIEWS];
    private final Tape tape = new Tape();
    private final Tolls tolls = new Tolls();
    private final Index index = new Index();
    private final Path path = new Path();
    private final Holdings here = new Holdings();
    private final Holdings there = new Holdings();
    private int strideNow = FIRST_STRIDE;
    /** True, if rows or the stride changed since the index was built. */
    private boolean stale = true;

    public RowStore() {
        for (int i = 0; i < VIEWS; i++) {
            views[i] = new Shelf();
        }
    }

    public int feed(int a, int b, int c, int d, int e) {
        if (tape.size + FEED_BYTES > TAPE_ROOM) {
            return NONE;
        }
        tape.addNumber(a);
        tape.addNumber(b);
        tape.addNumber(c);
        tape.addNumber(d);
        tape.addNumber(e);
        return tape.size;
    }

    public int batch(int n) {
        if (n < 0 || n % 2 != 0 || n > tape.size) {
            return NONE;
        }
        int acts = 0;
        for (int i = 0; i + 1 < n; i += 2) {
            int key = tape.byteAt(i);
            int value = tape.byteAt(i + 1);
            if (isKey(key)) {
                takeAct(key, value == DROP_BYTE ? NONE : value);
                acts++;
            }
        }
        tape.clear();
        return acts;
    }

    public int put(int key, int value) {
        if (!isKey(key) || value < 0 || value >= VALUES) {
            return NONE;
        }
        return takeAct(key, value);
    }

    public int drop(int key) {
        return isKey(key) ? takeAct(key, NONE) : NONE;
    }

    public int steps(int n) {
        if (n < 0 || n > MOST_STEPS) {
            return NONE;
        }
        stale = true;
        return engine.takeSteps(n);
    }

    public int budget(int n) {
        if (n < 0 || n > MOST_BUDGET) {
            return NONE;
        }
        int before = engine.budget;
        engine.budget = n;
        return before;
    }

    public int stride(int n) {
        if (n < LEAST_STRIDE || n > MOST_STRIDE) {
            return NONE;
        }
        int before = strideNow;
        strideNow = n;
        stale = true;
        return before;
    }

    public int find(int key) {
        if (!isKey(key)) {
            return NONE;
        }
        engine.shelf.arrange();
        return engine.shelf.valueOf(key);
    }

    public int looks(int key, boolean plain) throws NoSuchElementException {
        needKey(key);
        refresh();
        return looksFor(key, plain);
    }

    public int falls(int key, int level, int row) throws NoSuchElementException {
        needKey(key);
        needShut(level, row);
        refresh();
        path.followAll(engine.shelf, index, key);
        return path.fells[at(level, row)];
    }

    public int bounds(int key, int level, int row, boolean high) throws NoSuchElementException {
        needKey(key);
        needShut(level, row);
        refresh();
        path.followAll(engine.shelf, index, key);
        int at = at(level, row);
        return high ? path.highs[at] : path.lows[at];
    }

    public int route(int key, int i, int what) throws NoSuchElementException {
        needKey(key);
        needWhat(what, 6);
        refresh();
        path.follow(engine.shelf, index, key);
        if (i == NONE) {
            return path.gone;
        }
        if (i < 0 || i >= path.gone) {
            throw new NoSuchElementException("no such row on the route");
        }
        int at = engine.shelf.order[i];
        switch (what) {
            case 0: return LEVEL_OF[at];
            case 1: return numberOf(at);
            case 2: return path.lows[at];
            case 3: return path.highs[at];
            case 4: return path.fells[at];
            default: return path.looksIn[at];
        }
    }

    public int next(int key) throws NoSuchElementException {
        if (key != NONE) {
            needKey(key);
        }
        here.read(engine.shelf);
        for (int k = key + 1; k < KEYS; k++) {
            if (here.has(k)) {
                return k;
            }
        }
        return NONE;
    }

    public int nth(int i) throws NoSuchElementException {
        here.read(engine.shelf);
        int left = i;
        for (int k = 0; k < KEYS && left >= 0; k++) {
            if (here.has(k)) {
                if (left == 0) {
                    return k;
                }
                left--;
            }
        }
        throw new NoSuchElementException("no such key is there");
    }

    public int waste(int what) throws NoSuchElementException {
        needWhat(what, 3);
        here.read(engine.shelf);
        switch (what) {
            case 0: return here.things - here.heldKeys();
            case 1: return here.loneSigns();
            default: return here.things - here.keysThere(0, KEYS - 1);
        }
    }

    public int many(int from, int to) throws NoSuchElementException {
        needKey(from);
        needKey(to);
        here.read(engine.shelf);
        return here.keysThere(from, to);
    }

    public int trace(int key, int what) throws NoSuchElementException {
        needKey(key);
        needWhat(what, 3);
        Shelf shelf = engine.shelf;
        shelf.arrange();
        if (what == 0) {
            return shelf.rowsWith(key);
        }
        int found = shelf.firstWith(key);
        if (found == NONE) {
            return NONE;
        }
        return what == 1 ? LEVEL_OF[found] : numberOf(found);
    }

    public int level(int level, int what) throws NoSuchElementException {
        needLevel(level);
        needWhat(what, 9);
        Merge merge = engine.merges[level];
        int lead = engine.shelf.leadOf(level);
        switch (what) {
            case 0: return engine.shelf.shutOf(level);
            case 1: return merge.on ? 1 : 0;
            case 2: return engine.shelf.thingsOf(level);
            case 3: return merge.throughs;
            case 4: return merge.came;
            case 5: return engine.leftOf(level);
            case 6: return merge.on && merge.bare ? 1 : 0;
            case 7: return lead == NONE ? NONE : numberOf(lead);
            default: return lead == NONE ? 0 : marksOf(lead);
        }
    }

    public int row(int level, int row, int what) throws NoSuchElementException {
        needRow(level, row);
        needWhat(what, 6);
        int at = at(level, row);
        Row asked = engine.shelf.rows[at];
        switch (what) {
            case 0: return asked.state;
            case 1: return asked.size;
            case 2: return entriesOf(at);
            case 3: return marksOf(at);
            case 4: return asked.signs;
            default: return aheadOf(at);
        }
    }

    public int thing(int level, int row, int i, int what) throws NoSuchElementException {
        needRow(level, row);
        needWhat(what, 2);
        Row asked = engine.shelf.rows[at(level, row)];
        if (i < 0 || i >= asked.size) {
            throw new NoSuchElementException("no such thing");
        }
        return what == 0 ? asked.keyAt(i) : asked.valueAt(i);
    }

    public int entry(int level, int row, int i, int what) throws NoSuchElementException {
        needShut(level, row);
        needWhat(what, 4);
        refresh();
        Entries entries = index.entries[at(level, row)];
        if (i < 0 || i >= entries.size) {
            throw new NoSuchElementException("no such entry");
        }
        switch (what) {
            case 0: return entries.keyAt(i);
            case 1: return entries.kindAt(i);
            case 2: return entries.valueAt(i);
            default: return entries.placeAt(i);
        }
    }

    public int count(int what) throws NoSuchElementException {
        needWhat(what, 16);
        switch (what) {
            case 0: return engine.acts;
            case 1: return engine.stepsEver;
            case 2: return engine.forcedEver;
            case 3: return engine.mostSteps;
            case 4: return engine.replaced;
            case 5: return engine.signsGone;
            case 6: return keysNow(engine.shelf);
            case 7: return engine.shelf.arrange();
            case 8: return engine.shelf.things();
            case 9: return engine.shelf.deepest();
            case 10: return engine.budget;
            case 11: return strideNow;
            case 12: return engine.merging();
            case 13: return tape.size;
            case 14: return mostLooks(false);
            default: return mostLooks(true);
        }
    }

    public int toll(int ago) throws NoSuchElementException {
        if (ago < 0 || ago >= tolls.size) {
            throw new NoSuchElementException("no such act");
        }
        return tolls.stepsOf(ago);
    }

    public int ahead(int n, int what) throws NoSuchElementException, IllegalArgumentException {
        needWhat(what, 5);
        needActs(n);
        trial.copyFrom(engine);
        int most = 0;
        for (int i = 0; i < n; i++) {
            most = Math.max(most, trial.act(keyAhead(i), 0));
        }
        switch (what) {
            case 0: return trial.stepsEver - engine.stepsEver;
            case 1: return trial.forcedEver - engine.forcedEver;
            case 2: return most;
            case 3: return trial.shelf.arrange();
            default: return keysNow(trial.shelf);
        }
    }

    public int calm(int n) throws IllegalArgumentException {
        needActs(n);
        for (int budget = 0; budget <= MOST_BUDGET; budget++) {
            if (isCalm(n, budget)) {
                return budget;
            }
        }
        return NONE;
    }

    public int due(int level) throws NoSuchElementException {
        needLevel(level);
        trial.copyFrom(engine);
        for (int i = 0; i < MOST_AHEAD; i++) {
            trial.act(keyAhead(i), 0);
            if (trial.merges[level].throughs != engine.merges[level].throughs) {
                return i + 1;
            }
        }
        return NONE;
    }

    public int pack() {
        here.read(engine.shelf);
        engine.freeAll();
        stale = true;
        int keys = here.keysThere(0, KEYS - 1);
        if (keys == 0) {
            return 0;
        }
        Row packed = engine.shelf.rows[at(leastLevelFor(keys), 0)];
        for (int key = 0; key < KEYS; key++) {
            if (here.has(key)) {
                packed.append(key, here.values[key]);
            }
        }
        engine.shut(packed);
        return keys;
    }

    public int view(int view) {
        if (!isView(view)) {
            return NONE;
        }
        views[view].copyShut(engine.shelf);
        taken[view] = true;
        return views[view].arrange();
    }

    public int leave(int view) {
        if (!isTaken(view)) {
            return NONE;
        }
        taken[view] = false;
        return views[view].arrange();
    }

    public int seen(int view, int key) throws NoSuchElementException {
        needTaken(view);
        needKey(key);
        views[view].arrange();
        return views[view].valueOf(key);
    }

    public int against(int view, int what) throws NoSuchElementException {
        needTaken(view);
        needWhat(what, 4);
        here.read(engine.shelf);
        there.read(views[view]);
        switch (what) {
            case 0: return there.keysThere(0, KEYS - 1);
            case 1: return there.lostIn(here);
            case 2: return here.missingIn(there);
            default: return views[view].shutYetIn(engine.shelf);
        }
    }

    public int between(int view, int other) throws NoSuchElementException {
        needTaken(view);
        needTaken(other);
        here.read(views[view]);
        there.read(views[other]);
        return here.lostIn(there) + there.missingIn(here);
    }

    public int restore(int view) {
        if (!isTaken(view)) {
            return NONE;
        }
        engine.freeAll();
        engine.shelf.copyShut(views[view]);
        engine.askLevels();
        stale = true;
        return engine.shelf.arrange();
    }

    private int takeAct(int key, int value) {
        int steps = engine.act(key, value);
        tolls.add(steps);
        stale = true;
        return steps;
    }

    private void refresh() {
        if (stale) {
            engine.shelf.arrange();
            index.build(engine.shelf, strideNow);
            stale = false;
        }
    }

    private int looksFor(int key, boolean plain) {
        if (plain) {
            path.followPlain(engine.shelf, key);
        } else {
            path.follow(engine.shelf, index, key);
        }
        return path.looksInAll;
    }

    private int mostLooks(boolean plain) {
        refresh();
        int most = 0;
        for (int key = 0; key < KEYS; key++) {
            most = Math.max(most, looksFor(key, plain));
        }
        return most;
    }

    private int entriesOf(int at) {
        refresh();
        return index.entries[at].size;
    }

    private int marksOf(int at) {
        refresh();
        return index.entries[at].marks;
    }

    private int aheadOf(int at) {
        int shut = engine.shelf.arrange();
        for (int i = 0; i < shut; i++) {
            if (engine.shelf.order[i] == at) {
                return i;
            }
        }
        return NONE;
    }

    private int keysNow(Shelf shelf) {
        here.read(shelf);
        return here.keysThere(0, KEYS - 1);
    }

    private boolean isCalm(int n, int budget) {
        trial.copyFrom(engine);
        trial.budget = budget;
        for (int i = 0; i < n; i++) {
            trial.act(keyAhead(i), 0);
            if (trial.forcedEver != engine.forcedEver) {
                return false;
            }
        }
        return true;
    }

    private boolean isTaken(int view) {
        return isView(view) && taken[view];
    }

    private void needTaken(int view) {
        if (!isTaken(view)) {
            throw new NoSuchElementException("no such view is taken");
        }
    }

    private void needShut(int level, int row) {
        needRow(level, row);
        if (!engine.shelf.rows[at(level, row)].isShut()) {
            throw new NoSuchElementException("the row is not shut");
        }
    }

    private static void needKey(int key) {
        if (!isKey(key)) {
            throw new NoSuchElementException("no such key");
        }
    }

    private static void needLevel(int level) {
        if (level < 0 || level >= LEVELS) {
            throw new NoSuchElementException("no such level");
        }
    }

    private static void needRow(int level, int row) {
        needLevel(level);
        if (row < 0 || row >= END_ROW[level] - FIRST_ROW[level]) {
            throw new NoSuchElementException("no such row");
        }
    }

    private static void needWhat(int what, int kinds) {
        if (what < 0 || what >= kinds) {
            throw new NoSuchElementException("no such what");
        }
    }

    private static void needActs(int n) {
        if (n < 0 || n > MOST_AHEAD) {
            throw new IllegalArgumentException("not so many acts ahead");
        }
    }

    private static boolean isKey(int key) {
        return key >= 0 && key < KEYS;
    }

    private static boolean isView(int view) {
        return view >= 0 && view < VIEWS;
    }

    private static int keyAhead(int i) {
        return (37 * i + 11) % KEYS;
    }

    private static int leastLevelFor(int things) {
        int level = 0;
        while (level < LAST_LEVEL && (1 << level) < things) {
            level++;
        }
        return level;
    }

    private static int at(int level, int row) {
        return FIRST_ROW[level] + row;
    }

    /** The number of a row in its own level. */
    private static int numberOf(int at) {
        return at - FIRST_ROW[LEVEL_OF[at]];
    }

    /** Keys of a row are unlike, so none has more things than there are keys. */
    private static int thingRoom(int level) {
        return Math.min(1 << level, KEYS);
    }

    /** Things with rising keys; the value of a sign is NONE. */
    private static final class Row {
        final int[] keys;
        final int[] values;
        int state = FREE;
        int size = 0;
        int signs = 0;
        /** When it was shut: a number of its own for each row that ever was. */
        int stamp = 0;

        Row(int room) {
            keys = new int[Math.max(room, 0)];
            values = new int[Math.max(room, 0)];
        }

        void clear(int newState) {
            state = newState;
            size = 0;
            signs = 0;
        }

        boolean isShut() {
            return state == SHUT;
        }

        void append(int key, int value) {
            if (size < keys.length) {
                keys[size] = key;
                values[size] = value;
                size++;
                signs += value == NONE ? 1 : 0;
            }
        }

        /** Behind the last thing a key above all, so that the least of two is never that one. */
        int keyAt(int i) {
            return i >= 0 && i < size ? keys[i] : KEYS;
        }

        int valueAt(int i) {
            return i >= 0 && i < size ? values[i] : NONE;
        }

        int placeOf(int key) {
            int low = 0;
            int high = size;
            for (int left = MOST_HALVES; left > 0 && low < high; left--) {
                int middle = (low + high) / 2;
                if (keyAt(middle) < key) {
                    low = middle + 1;
                } else {
                    high = middle;
                }
            }
            return keyAt(low) == key ? low : NONE;
        }

        void copyFrom(Row other) {
            state = other.state;
            size = Math.min(other.size, keys.length);
            signs = other.signs;
            stamp = other.stamp;
            System.arraycopy(other.keys, 0, keys, 0, size);
            System.arraycopy(other.values, 0, values, 0, size);
        }
    }

    /** All rows of all levels, and the shut ones in the order in which one goes to find a key. */
    private static final class Shelf {
        final Row[] rows = new Row[ROWS];
        final int[] order = new int[ROWS];
        int shut = 0;

        Shelf() {
            for (int i = 0; i < ROWS; i++) {
                rows[i] = new Row(thingRoom(LEVEL_OF[i]));
            }
        }

        int arrange() {
            shut = 0;
            for (int level = 0; level < LEVELS; level++) {
                int from = shut;
                for (int i = FIRST_ROW[level]; i < END_ROW[level]; i++) {
                    if (rows[i].isShut()) {
                        insert(i, from);
                    }
                }
            }
            return shut;
        }

        private void insert(int row, int from) {
            int to = shut;
            while (to > from && rows[order[to - 1]].stamp < rows[row].stamp) {
                order[to] = order[to - 1];
                to--;
            }
            order[to] = row;
            shut++;
        }

        int leadOf(int level) {
            return youngestBut(level, NONE);
        }

        /** The youngest shut row of a level, one left out. */
        int youngestBut(int level, int but) {
            int youngest = NONE;
            for (int i = FIRST_ROW[level]; i < END_ROW[level]; i++) {
                if (rows[i].state == SHUT && i != but
                        && (youngest == NONE || rows[i].stamp > rows[youngest].stamp)) {
                    youngest = i;
                }
            }
            return youngest;
        }

        int shutOf(int level) {
            int many = 0;
            for (int i = FIRST_ROW[level]; i < END_ROW[level]; i++) {
                many += rows[i].state == SHUT ? 1 : 0;
            }
            return many;
        }

        int thingsOf(int level) {
            int many = 0;
            for (int i = FIRST_ROW[level]; i < END_ROW[level]; i++) {
                many += rows[i].isShut() ? rows[i].size : 0;
            }
            return many;
        }

        int things() {
            int many = 0;
            for (int level = 0; level < LEVELS; level++) {
                many += thingsOf(level);
            }
            return many;
        }

        int deepest() {
            int deepest = NONE;
            for (int level = 0; level < LEVELS; level++) {
                if (shutOf(level) > 0) {
                    deepest = level;
                }
            }
            return deepest;
        }

        boolean nothingBehind(int level) {
            for (int i = END_ROW[level]; i < ROWS; i++) {
                if (rows[i].state == SHUT) {
                    return false;
                }
            }
            return true;
        }

        int firstFree(int level) {
            for (int i = FIRST_ROW[level]; i < END_ROW[level]; i++) {
                if (rows[i].state == FREE) {
                    return i;
                }
            }
            return NONE;
        }

        /** Of the row that arrange() has put first among those that have the key. */
        int firstWith(int key) {
            for (int i = 0; i < shut; i++) {
                if (rows[order[i]].placeOf(key) != NONE) {
                    return order[i];
                }
            }
            return NONE;
        }

        int rowsWith(int key) {
            int many = 0;
            for (int i = 0; i < shut; i++) {
                many += rows[order[i]].placeOf(key) != NONE ? 1 : 0;
            }
            return many;
        }

        int valueOf(int key) {
            int row = firstWith(key);
            return row == NONE ? NONE : rows[row].valueAt(rows[row].placeOf(key));
        }

        /** The stamp tells whether a place holds the very same row again. */
        int shutYetIn(Shelf now) {
            int many = 0;
            for (int i = 0; i < ROWS; i++) {
                if (rows[i].isShut() && now.rows[i].isShut() && rows[i].stamp == now.rows[i].stamp) {
                    many++;
                }
            }
            return many;
        }

        void freeAll() {
            for (int i = 0; i < ROWS; i++) {
                rows[i].clear(FREE);
            }
        }

        void copyFrom(Shelf other) {
            for (int i = 0; i < ROWS; i++) {
                rows[i].copyFrom(other.rows[i]);
            }
        }

        void copyShut(Shelf other) {
            for (int i = 0; i < ROWS; i++) {
                if (other.rows[i].isShut()) {
                    rows[i].copyFrom(other.rows[i]);
                } else {
                    rows[i].clear(FREE);
                }
            }
        }
    }

    /** How far a level has merged its rows, and what it has cost. */
    private static final class Merge {
        boolean on = false;
        boolean bare = false;
        int young = 0;
        int elder = 0;
        int into = 0;
        int youngAt = 0;
        int elderAt = 0;
        int throughs = 0;
        int came = 0;

        void copyFrom(Merge other) {
            on = other.on;
            bare = other.bare;
            young = other.young;
            elder = other.elder;
            into = other.into;
            youngAt = other.youngAt;
            elderAt = other.elderAt;
            throughs = other.throughs;
            came = other.came;
        }
    }

    /** The rows with what changes them: acts and steps. */
    private static final class Engine {
        final Shelf shelf = new Shelf();
        final Merge[] merges = new Merge[LEVELS];
        int budget = FIRST_BUDGET;
        int stamps = 0;
        int acts = 0;
        int stepsEver = 0;
        int forcedEver = 0;
        int mostSteps = 0;
        int replaced = 0;
        int signsGone = 0;

        Engine() {
            for (int level = 0; level < LEVELS; level++) {
                merges[level] = new Merge();
            }
        }

        /** The value NONE drops the key. */
        int act(int key, int value) {
            int forced = makeRoom();
            layFirst(key, value);
            askLevels();
            int steps = forced + takeSteps(budget);
            acts++;
            forcedEver += forced;
            mostSteps = Math.max(mostSteps, steps);
            return steps;
        }

        private int makeRoom() {
            int taken = 0;
            while (taken < MOST_FORCED && shelf.firstFree(0) == NONE && step()) {
                taken++;
            }
            return taken;
        }

        private void layFirst(int key, int value) {
            int free = shelf.firstFree(0);
            if (free != NONE) {
                shelf.rows[free].clear(FREE);
                shelf.rows[free].append(key, value);
                shut(shelf.rows[free]);
            }
        }

        void shut(Row row) {
            stamps++;
            row.stamp = stamps;
            row.state = SHUT;
        }

        int takeSteps(int most) {
            int taken = 0;
            while (taken < most && step()) {
                taken++;
            }
            return taken;
        }

        /** False, if no level merges. */
        private boolean step() {
            for (int level = 0; level < LEVELS; level++) {
                if (merges[level].on) {
                    stepOf(merges[level]);
                    stepsEver++;
                    if (leftOf(level) == 0) {
                        end(merges[level]);
                        askLevels();
                    }
                    return true;
                }
            }
            return false;
        }

        private void stepOf(Merge merge) {
            Row young = shelf.rows[merge.young];
            Row elder = shelf.rows[merge.elder];
            int youngKey = young.keyAt(merge.youngAt);
            int elderKey = elder.keyAt(merge.elderAt);
            if (youngKey <= elderKey) {
                moveOn(merge, youngKey, young.valueAt(merge.youngAt));
                merge.youngAt++;
            } else {
                moveOn(merge, elderKey, elder.valueAt(merge.elderAt));
            }
            if (elderKey <= youngKey) {
                merge.elderAt++;
            }
            if (elderKey == youngKey) {
                replaced++;
            }
        }

        private void moveOn(Merge merge, int key, int value) {
            if (value == NONE && merge.bare) {
                signsGone++;
            } else {
                shelf.rows[merge.into].append(key, value);
                merge.came++;
            }
        }

        private void end(Merge merge) {
            shelf.rows[merge.young].clear(FREE);
            shelf.rows[merge.elder].clear(FREE);
            Row into = shelf.rows[merge.into];
            if (into.size == 0) {
                into.clear(FREE);
            } else {
                shut(into);
            }
            merge.on = false;
            merge.throughs++;
        }

        void askLevels() {
            for (int level = LAST_LEVEL; level >= 0; level--) {
                int into = shelf.firstFree(Math.min(level + 1, LAST_LEVEL));
                if (!merges[level].on && into != NONE && shelf.shutOf(level) == 2) {
                    begin(level, into);
                }
            }
        }

        private void begin(int level, int into) {
            Merge merge = merges[level];
            merge.on = true;
            merge.bare = shelf.nothingBehind(level);
            merge.young = shelf.youngestBut(level, NONE);
            merge.elder = shelf.youngestBut(level, merge.young);
            merge.into = into;
            merge.youngAt = 0;
            merge.elderAt = 0;
            shelf.rows[into].clear(OPEN);
        }

        int leftOf(int level) {
            Merge merge = merges[level];
            if (!merge.on) {
                return 0;
            }
            return shelf.rows[merge.young].size - merge.youngAt + shelf.rows[merge.elder].size - merge.elderAt;
        }

        int merging() {
            int many = 0;
            for (int level = 0; level < LEVELS; level++) {
                many += merges[level].on ? 1 : 0;
            }
            return many;
        }

        void freeAll() {
            shelf.freeAll();
            for (int level = 0; level < LEVELS; level++) {
                merges[level].on = false;
            }
        }

        void copyFrom(Engine other) {
            shelf.copyFrom(other.shelf);
            for (int level = 0; level < LEVELS; level++) {
                merges[level].copyFrom(other.merges[level]);
            }
            budget = other.budget;
            stamps = other.stamps;
            acts = other.acts;
            stepsEver = other.stepsEver;
            forcedEver = other.forcedEver;
            mostSteps = other.mostSteps;
            replaced = other.replaced;
            signsGone = other.signsGone;
        }
    }

    /** Things and marks of one shut row; a thing's place is NONE, a mark's value is the row that it marks. */
    private static final class Entries {
        final int[] keys;
        final int[] values;
        final int[] places;
        int size = 0;
        int marks = 0;

        Entries(int room) {
            keys = new int[Math.max(room, 0)];
            values = new int[Math.max(room, 0)];
            places = new int[Math.max(room, 0)];
        }

        void clear() {
            size = 0;
            marks = 0;
        }

        void append(int key, int value, int place) {
            if (size < keys.length) {
                keys[size] = key;
                values[size] = value;
                places[size] = place;
                size++;
                marks += place == NONE ? 0 : 1;
            }
        }

        int keyAt(int i) {
            return i >= 0 && i < size ? keys[i] : KEYS;
        }

        int valueAt(int i) {
            return i >= 0 && i < size ? values[i] : NONE;
        }

        int placeAt(int i) {
            return i >= 0 && i < size ? places[i] : NONE;
        }

        int kindAt(int i) {
            if (placeAt(i) != NONE) {
                return 2;
            }
            return valueAt(i) == NONE ? 1 : 0;
        }

        /** The place of the last mark of a row ahead of where a key fell. */
        int lastMark(int row, int fell) {
            for (int i = Math.min(fell, size) - 1; i >= 0; i--) {
                if (places[i] != NONE && values[i] == row) {
                    return places[i];
                }
            }
            return NONE;
        }

        /** The place of the first mark of a row from where a key fell on. */
        int firstMark(int row, int fell) {
            for (int i = Math.max(fell, 0); i < size; i++) {
                if (places[i] != NONE && values[i] == row) {
                    return places[i];
                }
            }
            return NONE;
        }
    }

    /** The entries of all shut rows, built from the last level back, as marks tell places in the next one. */
    private static final class Index {
        final Entries[] entries = new Entries[ROWS];

        Index() {
            int room = 0;
            int thingsBehind = 0;
            for (int level = LAST_LEVEL; level >= 0; level--) {
                // At the least stride half of each row behind is marked; but one of the two has no marks itself.
                room = thingRoom(level) + room / LEAST_STRIDE + thingsBehind / LEAST_STRIDE;
                thingsBehind = thingRoom(level);
                for (int i = FIRST_ROW[level]; i < END_ROW[level]; i++) {
                    entries[i] = new Entries(room);
                }
            }
        }

        void build(Shelf shelf, int stride) {
            for (int level = LAST_LEVEL; level >= 0; level--) {
                int lead = shelf.leadOf(level);
                for (int i = FIRST_ROW[level]; i < END_ROW[level]; i++) {
                    entries[i].clear();
                    if (i == lead && level < LAST_LEVEL) {
                        int young = shelf.leadOf(level + 1);
                        weave(shelf.rows[i], entries[i], young, shelf.youngestBut(level + 1, young), stride);
                    } else if (shelf.rows[i].isShut()) {
                        weave(shelf.rows[i], entries[i], NONE, NONE, stride);
                    }
                }
            }
        }

        private void weave(Row row, Entries into, int young, int elder, int stride) {
            int thing = 0;
            int youngPlace = stride - 1;
            int elderPlace = stride - 1;
            int all = row.size + marksIn(young, stride) + marksIn(elder, stride);
            for (int i = 0; i < all; i++) {
                int thingKey = row.keyAt(thing);
                int youngKey = keyIn(young, youngPlace);
                int elderKey = keyIn(elder, elderPlace);
                if (thingKey <= youngKey && thingKey <= elderKey) {
                    into.append(thingKey, row.valueAt(thing), NONE);
                    thing++;
                } else if (youngKey <= elderKey) {
                    into.append(youngKey, numberOf(young), youngPlace);
                    youngPlace += stride;
                } else {
                    into.append(elderKey, numberOf(elder), elderPlace);
                    elderPlace += stride;
                }
            }
        }

        private int marksIn(int row, int stride) {
            return row == NONE || stride < LEAST_STRIDE ? 0 : entries[row].size / stride;
        }

        private int keyIn(int row, int place) {
            return row == NONE ? KEYS : entries[row].keyAt(place);
        }
    }

    /** How one went to find a key: for each row that was entered where it fell, and what it took. */
    private static final class Path {
        final int[] lows = new int[ROWS];
        final int[] highs = new int[ROWS];
        final int[] fells = new int[ROWS];
        final int[] looksIn = new int[ROWS];
        int gone = 0;
        int looksInAll = 0;

        void follow(Shelf shelf, Index index, int key) {
            start();
            boolean found = false;
            for (int i = 0; i < shelf.shut && !found; i++) {
                found = enter(shelf, index, shelf.order[i], key);
            }
        }

        /** As if the key were found in none. */
        void followAll(Shelf shelf, Index index, int key) {
            start();
            for (int i = 0; i < shelf.shut; i++) {
                enter(shelf, index, shelf.order[i], key);
            }
        }

        void followPlain(Shelf shelf, int key) {
            start();
            boolean found = false;
            for (int i = 0; i < shelf.shut && !found; i++) {
                int at = shelf.order[i];
                Row row = shelf.rows[at];
                lows[at] = 0;
                highs[at] = row.size;
                halve(at, row.keys, row.size, key);
                found = row.keyAt(fells[at]) == key;
            }
        }

        private void start() {
            gone = 0;
            looksInAll = 0;
        }

        private boolean enter(Shelf shelf, Index index, int at, int key) {
            Entries entries = index.entries[at];
            narrow(shelf, index, at);
            halve(at, entries.keys, entries.size, key);
            int fell = fells[at];
            return entries.keyAt(fell) == key && entries.placeAt(fell) == NONE;
        }

        /** The lead ahead was entered earlier, so where the key fell in it is known. */
        private void narrow(Shelf shelf, Index index, int at) {
            lows[at] = 0;
            highs[at] = index.entries[at].size;
            int level = LEVEL_OF[at];
            int lead = level == 0 ? NONE : shelf.leadOf(level - 1);
            if (lead != NONE) {
                int row = numberOf(at);
                int last = index.entries[lead].lastMark(row, fells[lead]);
                int first = index.entries[lead].firstMark(row, fells[lead]);
                lows[at] = last == NONE ? lows[at] : last + 1;
                highs[at] = first == NONE ? highs[at] : first;
            }
        }

        private void halve(int at, int[] keys, int size, int key) {
            int low = lows[at];
            int high = Math.min(highs[at], Math.min(size, keys.length));
            int looks = 0;
            for (int left = MOST_HALVES; left > 0 && low < high; left--) {
                int middle = (low + high) / 2;
                looks++;
                if (keys[middle] < key) {
                    low = middle + 1;
                } else {
                    high = middle;
                }
            }
            looks += low < size ? 1 : 0;
            fells[at] = low;
            looksIn[at] = looks;
            looksInAll += looks;
            gone++;
        }
    }

    /** What each key is found by on a shelf, and in how many rows it is. */
    private static final class Holdings {
        /** NONE for a sign, and where there is no thing. */
        final int[] values = new int[KEYS];
        final int[] held = new int[KEYS];
        int things = 0;

        /** From the last row back, so that what is found first is written last. */
        void read(Shelf shelf) {
            Arrays.fill(values, NONE);
            Arrays.fill(held, 0);
            things = 0;
            for (int i = shelf.arrange() - 1; i >= 0; i--) {
                readRow(shelf.rows[shelf.order[i]]);
            }
        }

        private void readRow(Row row) {
            for (int i = 0; i < row.size; i++) {
                int key = row.keyAt(i);
                if (isKey(key)) {
                    values[key] = row.valueAt(i);
                    held[key]++;
                    things++;
                }
            }
        }

        boolean has(int key) {
            return isKey(key) && values[key] != NONE;
        }

        int keysThere(int from, int to) {
            int many = 0;
            for (int key = from; key <= to; key++) {
                many += has(key) ? 1 : 0;
            }
            return many;
        }

        int heldKeys() {
            int many = 0;
            for (int key = 0; key < KEYS; key++) {
                many += held[key] > 0 ? 1 : 0;
            }
            return many;
        }

        /** Signs that hide nothing. */
        int loneSigns() {
            int many = 0;
            for (int key = 0; key < KEYS; key++) {
                many += held[key] == 1 && !has(key) ? 1 : 0;
            }
            return many;
        }

        /** Keys that are there, but not, or with another value, in the other one. */
        int lostIn(Holdings other) {
            int many = 0;
            for (int key = 0; key < KEYS; key++) {
                many += has(key) && other.values[key] != values[key] ? 1 : 0;
            }
            return many;
        }

        /** Keys that are there, but not in the other one. */
        int missingIn(Holdings other) {
            int many = 0;
            for (int key = 0; key < KEYS; key++) {
                many += has(key) && !other.has(key) ? 1 : 0;
            }
            return many;
        }
    }

    /** Bytes that wait to be taken by twos. */
    private static final class Tape {
        final int[] bytes = new int[TAPE_ROOM];
        int size = 0;

        void addNumber(int number) {
            for (int shift = 24; shift >= 0; shift -= 8) {
                if (size < TAPE_ROOM) {
                    bytes[size] = (number >>> shift) & 255;
                    size++;
                }
            }
        }

        int byteAt(int i) {
            return i >= 0 && i < size ? bytes[i] : NONE;
        }

        void clear() {
            size = 0;
        }
    }

    /** Steps of the latest acts, in a ring. */
    private static final class Tolls {
        final int[] ring = new int[TOLLS];
        int latest = 0;
        int size = 0;

        void add(int steps) {
            latest = (latest + 1) % TOLLS;
            ring[latest] = steps;
            size = Math.min(size + 1, TOLLS);
        }

        int stepsOf(int ago) {
            return ago >= 0 && ago < size ? ring[(latest + TOLLS - ago) % TOLLS] : NONE;
        }
    }
}
