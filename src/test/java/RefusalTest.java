/**
 * Each argument of each call: the last value that is taken and the first that is refused on either side, and the
 * greatest and least numbers of all. Behind each refused call nothing has changed.
 */
public final class RefusalTest {
    private static final int NONE = RowStore.NONE;
    private static final String NO = String.valueOf(NONE);
    private static final String ELEMENT = Checks.ELEMENT;
    private static final String ARGUMENT = Checks.ARGUMENT;

    private interface Ranged {
        int ask(RowStore x, int value);
    }

    private static final Checks.Script EMPTY = x -> { };

    /** Signs, a level that merges, two views of three, a tape of 40 bytes; keys 0 and 199 are there. */
    private static final Checks.Script SOME = x -> {
        x.stride(2);
        Checks.putAll(x, 0, 199, 50, 60, 70, 80);
        x.view(0);
        x.drop(60);
        Checks.putAll(x, 55, 199, 65, 90);
        x.view(2);
        x.budget(1);
        x.drop(4);
        Checks.putAll(x, 0, 57, 3);
        x.drop(58);
        x.feed(0x01020304, 0x05FF0607, 0xC8000809, 0x0A0B0C0D, 0x0E0F1011);
        x.feed(0x11121314, 0x15FF1617, 0xC8001819, 0x1A1B1C1D, 0x1E1F2021);
    };

    /** Two shut rows in each level, the third one of level 8 open; all views; the tape is full. */
    private static final Checks.Script FULL = x -> {
        Checks.fill(x);
        x.view(0);
        x.view(1);
        x.view(2);
        for (int i = 0; i < 10; i++) {
            x.feed(0x01020304, 0x05FF0607 + i, 0xC8000809, 0x0A0B0C0D, 0x0E0F1011);
        }
    };

    private static void range(String name, Checks.Script script, int low, int high, String no, Ranged call) {
        for (int value : new int[] {low, high}) {
            String got = Checks.answer(Checks.made(script), x -> call.ask(x, value));
            boolean taken = !got.startsWith("throws.") && !(no.equals(NO) && got.equals(NO));
            Checks.due(name + " " + value + " is taken", "true", taken ? "true" : got);
        }
        for (int value : new int[] {low - 1, high + 1, Integer.MIN_VALUE, Integer.MAX_VALUE}) {
            Twins.refused(name + " " + value, script, no, x -> call.ask(x, value));
        }
    }

    private static void none(String name, Checks.Script script, Checks.Call call) {
        Twins.refused(name, script, NO, call);
    }

    private static void element(String name, Checks.Script script, Checks.Call call) {
        Twins.refused(name, script, ELEMENT, call);
    }

    private static void states() {
        Checks.says("the states that are asked");
        RowStore some = Checks.made(SOME);
        Checks.due("some: levels that merge", 1, some.count(12) > 0 ? 1 : 0);
        Checks.due("some: bytes", 40, some.count(13));
        RowStore full = Checks.made(FULL);
        for (int level = 0; level < 9; level++) {
            Checks.due("full: row(" + level + ", 0, 0)", 2, full.row(level, 0, 0));
            Checks.due("full: row(" + level + ", 1, 0)", 2, full.row(level, 1, 0));
        }
        Checks.due("full: row(8, 2, 0)", 1, full.row(8, 2, 0));
        Checks.due("full: bytes", 200, full.count(13));
    }

    private static void feed() {
        Checks.says("NONE, and none come, if it would have more than 200.");
        none("feed on 200", FULL, x -> x.feed(1, 2, 3, 4, 5));
        none("feed on 200", FULL, x -> x.feed(-1, Integer.MIN_VALUE, Integer.MAX_VALUE, 0, 1));
    }

    private static void batch() {
        Checks.says("NONE: n odd, below 0, more than the tape has.");
        for (int n : new int[] {1, 19, 39, 41, 199, 201, -1, -3, Integer.MAX_VALUE}) {
            none("odd: batch(" + n + ")", SOME, x -> x.batch(n));
        }
        for (int n : new int[] {-2, -40, Integer.MIN_VALUE}) {
            none("below 0: batch(" + n + ")", SOME, x -> x.batch(n));
        }
        for (int n : new int[] {42, 60, 200, Integer.MAX_VALUE - 1}) {
            none("more than 40: batch(" + n + ")", SOME, x -> x.batch(n));
        }
        none("more than 200: batch(202)", FULL, x -> x.batch(202));
        none("more than none: batch(2)", EMPTY, x -> x.batch(2));
        none("more than none, odd: batch(1)", EMPTY, x -> x.batch(1));
        Checks.due("all of it: batch(40)", 18, Checks.made(SOME).batch(40));
        Checks.due("all of it: batch(200)", 90, Checks.made(FULL).batch(200));
        Checks.due("none of it: batch(0)", 0, Checks.made(SOME).batch(0));
    }

    private static void acts() {
        for (Checks.Script script : new Checks.Script[] {EMPTY, SOME, FULL}) {
            Checks.says("A KEY is put: STEPS that it took (FORCED ones, too). NONE: no such KEY, VALUE.");
            range("put key", script, 0, 199, NO, (x, key) -> x.put(key, 5));
            range("put value", script, 0, 999, NO, (x, value) -> x.put(5, value));
            none("put, both wrong", script, x -> x.put(-1, 1000));
            Checks.says("A KEY is dropped: STEPS that it took. NONE: no such KEY.");
            range("drop key", script, 0, 199, NO, (x, key) -> x.drop(key));
            Checks.says("So many STEPS (0 to 1000), or till none MERGES: how many were taken. NONE: another number.");
            range("steps", script, 0, 1000, NO, (x, n) -> x.steps(n));
        }
    }

    private static void settings() {
        Checks.says("BUDGET is told: what it was. NONE: not 0 to 40.");
        range("budget", SOME, 0, 40, NO, (x, n) -> x.budget(n));
        Checks.says("STRIDE is told (MARKS are others from then on): what it was. NONE: not 2 to 8.");
        range("stride", SOME, 2, 8, NO, (x, n) -> x.stride(n));
        none("stride(0)", SOME, x -> x.stride(0));
    }

    private static void findings() {
        Checks.says("The VALUE of a KEY; NONE: it isn't THERE, no such KEY.");
        range("find", SOME, 0, 199, NO, (x, key) -> x.find(key));
        none("find of none", EMPTY, x -> x.find(0));
        Checks.says("NoSuchElementException: no such KEY.");
        range("looks", SOME, 0, 199, ELEMENT, (x, key) -> x.looks(key, false));
        range("looks, plain", SOME, 0, 199, ELEMENT, (x, key) -> x.looks(key, true));
        range("looks of none", EMPTY, 0, 199, ELEMENT, (x, key) -> x.looks(key, false));
    }

    private static void fallings() {
        Checks.says("NoSuchElementException: no such KEY, LEVEL, ROW, or it isn't SHUT.");
        range("falls key", FULL, 0, 199, ELEMENT, (x, key) -> x.falls(key, 8, 1));
        range("falls level", FULL, 0, 8, ELEMENT, (x, level) -> x.falls(5, level, 1));
        range("falls row", FULL, 0, 1, ELEMENT, (x, row) -> x.falls(5, 7, row));
        element("falls, no row 3", FULL, x -> x.falls(5, 8, 3));
        element("falls, the row is open", FULL, x -> x.falls(5, 8, 2));
        element("falls, the row is free", EMPTY, x -> x.falls(5, 0, 0));
        Checks.says("Refused as falls().");
        for (boolean high : new boolean[] {false, true}) {
            range("bounds key", FULL, 0, 199, ELEMENT, (x, key) -> x.bounds(key, 8, 1, high));
            range("bounds level", FULL, 0, 8, ELEMENT, (x, level) -> x.bounds(5, level, 1, high));
            range("bounds row", FULL, 0, 1, ELEMENT, (x, row) -> x.bounds(5, 7, row, high));
            element("bounds, no row 3", FULL, x -> x.bounds(5, 8, 3, high));
            element("bounds, the row is open", FULL, x -> x.bounds(5, 8, 2, high));
            element("bounds, the row is free", EMPTY, x -> x.bounds(5, 0, 0, high));
        }
    }

    private static void routes() {
        Checks.says("NoSuchElementException: no such KEY, ROW, another what.");
        range("route key", SOME, 0, 199, ELEMENT, (x, key) -> x.route(key, 0, 5));
        range("route key, how many", EMPTY, 0, 199, ELEMENT, (x, key) -> x.route(key, NONE, 0));
        range("route what", SOME, 0, 5, ELEMENT, (x, what) -> x.route(199, 0, what));
        range("route what, how many", SOME, 0, 5, ELEMENT, (x, what) -> x.route(199, NONE, what));
        int rows = Checks.made(SOME).route(100, NONE, 0);
        Checks.due("rows to none are all", Checks.made(SOME).count(7), rows);
        range("route i", SOME, NONE, rows - 1, ELEMENT, (x, i) -> x.route(100, i, 5));
        element("route of none", EMPTY, x -> x.route(0, 0, 0));
    }

    private static void keysThere() {
        Checks.says("The least KEY above one (-1 on) that is THERE; NONE: none. NoSuchElementException: not -1 to 199.");
        range("next", SOME, -1, 199, ELEMENT, (x, key) -> x.next(key));
        range("next of none", EMPTY, -1, 199, ELEMENT, (x, key) -> x.next(key));
        Checks.says("The i-th KEY that is THERE, rising (0 on). NoSuchElementException: there is none.");
        int there = Checks.made(SOME).count(6);
        range("nth", SOME, 0, there - 1, ELEMENT, (x, i) -> x.nth(i));
        range("nth of all", FULL, 0, 199, ELEMENT, (x, i) -> x.nth(i));
        element("nth of none", EMPTY, x -> x.nth(0));
        Checks.says("NoSuchElementException: no such KEYS.");
        range("many from", SOME, 0, 199, ELEMENT, (x, from) -> x.many(from, 199));
        range("many to", SOME, 0, 199, ELEMENT, (x, to) -> x.many(0, to));
        range("many from, to 0", SOME, 0, 199, ELEMENT, (x, from) -> x.many(from, 0));
        range("many to, from 199", SOME, 0, 199, ELEMENT, (x, to) -> x.many(199, to));
    }

    private static void whats() {
        Checks.says("NoSuchElementException: another what.");
        range("waste", SOME, 0, 2, ELEMENT, (x, what) -> x.waste(what));
        range("waste of none", EMPTY, 0, 2, ELEMENT, (x, what) -> x.waste(what));
        range("count", SOME, 0, 15, ELEMENT, (x, what) -> x.count(what));
        range("count of none", EMPTY, 0, 15, ELEMENT, (x, what) -> x.count(what));
        Checks.says("NoSuchElementException: no such KEY, another what.");
        range("trace key", SOME, 0, 199, ELEMENT, (x, key) -> x.trace(key, 0));
        range("trace what", SOME, 0, 2, ELEMENT, (x, what) -> x.trace(199, what));
        range("trace what of none", EMPTY, 0, 2, ELEMENT, (x, what) -> x.trace(199, what));
        Checks.says("NoSuchElementException: no such LEVEL, another what.");
        range("level level", EMPTY, 0, 8, ELEMENT, (x, level) -> x.level(level, 0));
        range("level level", FULL, 0, 8, ELEMENT, (x, level) -> x.level(level, 8));
        range("level what", EMPTY, 0, 8, ELEMENT, (x, what) -> x.level(8, what));
        range("level what", SOME, 0, 8, ELEMENT, (x, what) -> x.level(0, what));
    }

    private static void rows() {
        Checks.says("LEVELS 0 to 8, each of ROWS 0 and 1, LEVEL 8 of ROW 2, too.");
        for (int k = 0; k < 9; k++) {
            int level = k;
            int last = level == 8 ? 2 : 1;
            range("row row of level " + level, EMPTY, 0, last, ELEMENT, (x, row) -> x.row(level, row, 0));
        }
        Checks.says("NoSuchElementException: no such LEVEL, ROW, another what.");
        range("row level", SOME, 0, 8, ELEMENT, (x, level) -> x.row(level, 1, 0));
        range("row what", EMPTY, 0, 5, ELEMENT, (x, what) -> x.row(8, 2, what));
        range("row what", SOME, 0, 5, ELEMENT, (x, what) -> x.row(0, 0, what));
    }

    private static void things() {
        Checks.says("Of the i-th THING (0 on) of a ROW: NoSuchElementException: there is none, another what.");
        range("thing level", FULL, 0, 8, ELEMENT, (x, level) -> x.thing(level, 1, 0, 0));
        range("thing row", FULL, 0, 1, ELEMENT, (x, row) -> x.thing(8, row, 0, 0));
        element("thing, no row 2", FULL, x -> x.thing(7, 2, 0, 0));
        element("thing, no row 3", FULL, x -> x.thing(8, 3, 0, 0));
        range("thing i", FULL, 0, 127, ELEMENT, (x, i) -> x.thing(7, 0, i, 1));
        range("thing i of all keys", FULL, 0, 199, ELEMENT, (x, i) -> x.thing(8, 0, i, 1));
        range("thing i of one", FULL, 0, 0, ELEMENT, (x, i) -> x.thing(0, 0, i, 0));
        range("thing what", FULL, 0, 1, ELEMENT, (x, what) -> x.thing(3, 0, 0, what));
        element("thing of an open row that is empty", FULL, x -> x.thing(8, 2, 0, 0));
        element("thing of a free row", EMPTY, x -> x.thing(0, 0, 0, 0));
    }

    private static void entries() {
        Checks.says("Of the i-th ENTRY (0 on) of a SHUT ROW: NoSuchElementException: there is none, another what.");
        range("entry level", FULL, 0, 8, ELEMENT, (x, level) -> x.entry(level, 1, 0, 0));
        range("entry row", FULL, 0, 1, ELEMENT, (x, row) -> x.entry(8, row, 0, 0));
        element("entry, no row 2", FULL, x -> x.entry(7, 2, 0, 0));
        element("entry, no row 3", FULL, x -> x.entry(8, 3, 0, 0));
        element("entry of an open row that is empty", FULL, x -> x.entry(8, 2, 0, 0));
        element("entry of a free row", EMPTY, x -> x.entry(0, 0, 0, 0));
        range("entry i without marks", FULL, 0, 127, ELEMENT, (x, i) -> x.entry(7, 0, i, 0));
        // The lead has marks of two rows of 200 entries: each fourth one.
        range("entry i with marks", FULL, 0, 227, ELEMENT, (x, i) -> x.entry(7, 1, i, 0));
        range("entry what", FULL, 0, 3, ELEMENT, (x, what) -> x.entry(3, 0, 0, what));
        Checks.Script open = x -> {
            x.budget(1);
            Checks.putAll(x, 1, 2);
        };
        Checks.due("a thing in the open row", 1, Checks.made(open).row(1, 0, 1));
        element("entry of an open row", open, x -> x.entry(1, 0, 0, 0));
    }

    private static void toll() {
        Checks.says("TOLLS: STEPS of an ACT so many ago (0: the latest). NoSuchElementException: there is none.");
        element("toll of none", EMPTY, x -> x.toll(0));
        range("toll of one", x -> x.put(1, 1), 0, 0, ELEMENT, (x, ago) -> x.toll(ago));
        range("toll of 39", x -> Checks.round(x, 0, 39, 1), 0, 38, ELEMENT, (x, ago) -> x.toll(ago));
        range("toll of 40", x -> Checks.round(x, 0, 40, 1), 0, 39, ELEMENT, (x, ago) -> x.toll(ago));
        range("toll of 41", x -> Checks.round(x, 0, 41, 1), 0, 39, ELEMENT, (x, ago) -> x.toll(ago));
        range("toll of 1022", FULL, 0, 39, ELEMENT, (x, ago) -> x.toll(ago));
    }

    private static void comings() {
        for (Checks.Script script : new Checks.Script[] {EMPTY, SOME}) {
            Checks.says("NoSuchElementException: another what. IllegalArgumentException (behind that): n.");
            range("ahead what", script, 0, 4, ELEMENT, (x, what) -> x.ahead(64, what));
            range("ahead what, n wrong", script, 0, 4, ELEMENT, (x, what) -> what < 0 || what > 4 ? x.ahead(65, what) : 0);
            range("ahead what, n below 0", script, 0, 4, ELEMENT,
                    (x, what) -> what < 0 || what > 4 ? x.ahead(-1, what) : 0);
            for (int w = 0; w < 5; w++) {
                int what = w;
                range("ahead n", script, 0, 64, ARGUMENT, (x, n) -> x.ahead(n, what));
            }
            Checks.says("CALM for n; NONE: none. IllegalArgumentException: n.");
            range("calm", script, 0, 64, ARGUMENT, (x, n) -> x.calm(n));
            Checks.says("NONE: behind none. NoSuchElementException: no such LEVEL.");
            range("due", script, 0, 8, ELEMENT, (x, level) -> x.due(level));
        }
    }

    private static void views() {
        for (Checks.Script script : new Checks.Script[] {EMPTY, SOME, FULL}) {
            Checks.says("A VIEW is taken (in place of another one): SHUT ROWS in it. NONE: no such one.");
            range("view", script, 0, 2, NO, (x, view) -> x.view(view));
        }
        Checks.says("A VIEW goes: how many SHUT ROWS it had. NONE: no such one, it isn't taken.");
        range("leave", FULL, 0, 2, NO, (x, view) -> x.leave(view));
        none("leave(1), not taken", SOME, x -> x.leave(1));
        Checks.says("SHUT ROWS. NONE: no such one, it isn't taken.");
        range("restore", FULL, 0, 2, NO, (x, view) -> x.restore(view));
        none("restore(1), not taken", SOME, x -> x.restore(1));
        for (int v = 0; v < 3; v++) {
            int view = v;
            none("leave, none is taken", EMPTY, x -> x.leave(view));
            none("restore, none is taken", EMPTY, x -> x.restore(view));
        }
    }

    private static void seenViews() {
        Checks.says("NONE: it isn't THERE. NoSuchElementException: no such KEY, VIEW, or it isn't taken.");
        range("seen view", FULL, 0, 2, ELEMENT, (x, view) -> x.seen(view, 5));
        range("seen key", SOME, 0, 199, ELEMENT, (x, key) -> x.seen(0, key));
        element("seen, not taken", SOME, x -> x.seen(1, 0));
        Checks.says("NoSuchElementException: no such VIEW, it isn't taken, another what.");
        range("against view", FULL, 0, 2, ELEMENT, (x, view) -> x.against(view, 3));
        range("against what", SOME, 0, 3, ELEMENT, (x, what) -> x.against(2, what));
        element("against, not taken", SOME, x -> x.against(1, 0));
        Checks.says("NoSuchElementException: no such VIEWS, one isn't taken.");
        range("between view", FULL, 0, 2, ELEMENT, (x, view) -> x.between(view, 1));
        range("between other", FULL, 0, 2, ELEMENT, (x, other) -> x.between(1, other));
        element("between, the first isn't taken", SOME, x -> x.between(1, 0));
        element("between, the other isn't taken", SOME, x -> x.between(2, 1));
        element("between, both aren't taken", SOME, x -> x.between(1, 1));
        for (int v = 0; v < 3; v++) {
            int view = v;
            element("seen, none is taken", EMPTY, x -> x.seen(view, 0));
            element("against, none is taken", EMPTY, x -> x.against(view, 0));
            element("between, none is taken", EMPTY, x -> x.between(view, view));
        }
    }

    /** Calls that only ask change nothing either; what would be shows without its coming. */
    private static void askings() {
        Checks.says("as if so many came");
        Twins.unchanged("ahead(64, 0)", SOME, x -> x.ahead(64, 0));
        Twins.unchanged("ahead(64, 4)", FULL, x -> x.ahead(64, 4));
        Twins.unchanged("calm(64)", SOME, x -> x.calm(64));
        Twins.unchanged("calm(1)", FULL, x -> x.calm(1));
        Twins.unchanged("due(0)", SOME, x -> x.due(0));
        Twins.unchanged("due(8)", FULL, x -> x.due(8));
        Checks.says("So many STEPS (0 to 1000), or till none MERGES: how many were taken.");
        Twins.unchanged("steps(0)", SOME, x -> x.steps(0));
        Twins.unchanged("steps(1000) of none", EMPTY, x -> x.steps(1000));
    }

    public static void main(String[] args) {
        states();
        feed();
        batch();
        acts();
        settings();
        findings();
        fallings();
        routes();
        keysThere();
        whats();
        rows();
        things();
        entries();
        toll();
        comings();
        views();
        seenViews();
        askings();
        Checks.end();
    }
}
