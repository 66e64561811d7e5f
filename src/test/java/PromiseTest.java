import java.util.NoSuchElementException;

/** Each promise of the document by hand: ordinary inputs, the edges that it names, wrong inputs. */
public final class PromiseTest {
    private static final int NONE = RowStore.NONE;
    private static int wrong = 0;
    private static int promise = 0;

    private interface Call {
        int ask();
    }

    private static void due(String what, int want, int got) {
        if (got != want) {
            wrong++;
            System.out.println("promise " + promise + ": " + what + " answered " + got + ", due is " + want);
        }
    }

    private static void dueAll(String what, int[] want, int[] got) {
        due(what + " how many", want.length, got.length);
        for (int i = 0; i < Math.min(want.length, got.length); i++) {
            due(what + " " + i, want[i], got[i]);
        }
    }

    private static void refused(String what, Class<? extends RuntimeException> kind, Call call) {
        try {
            due(what + " (to be thrown: " + kind.getSimpleName() + ")", Integer.MIN_VALUE, call.ask());
        } catch (RuntimeException e) {
            due(what + " throws " + e.getClass().getSimpleName(), 1, e.getClass() == kind ? 1 : 0);
        }
    }

    private static void none(String what, Call call) {
        refused(what, NoSuchElementException.class, call);
    }

    /** All that can be seen of a store, but for what a view holds. */
    private static String all(RowStore x) {
        StringBuilder seen = new StringBuilder();
        for (int what = 0; what < 16; what++) {
            seen.append(x.count(what)).append(' ');
        }
        for (int level = 0; level < 9; level++) {
            for (int what = 0; what < 9; what++) {
                seen.append(x.level(level, what)).append(' ');
            }
            for (int row = 0; row < (level == 8 ? 3 : 2); row++) {
                for (int what = 0; what < 6; what++) {
                    seen.append(x.row(level, row, what)).append(' ');
                }
                for (int i = 0; i < x.row(level, row, 1); i++) {
                    seen.append(x.thing(level, row, i, 0)).append('=').append(x.thing(level, row, i, 1)).append(' ');
                }
            }
        }
        for (int i = 0; i < Math.min(40, x.count(0)); i++) {
            seen.append(x.toll(i)).append(' ');
        }
        return seen.toString();
    }

    private static void unchanged(String what, RowStore x, int want, Call call) {
        String before = all(x);
        due(what, want, call.ask());
        due(what + " changes nothing", 1, all(x).equals(before) ? 1 : 0);
    }

    private static RowStore with(int... keys) {
        RowStore x = new RowStore();
        for (int key : keys) {
            x.put(key, key);
        }
        return x;
    }

    /**
     * Level 2: 10 20 30 40. Level 1: 5 20(place 1) 25 40(place 3). Level 0: 15 20(place 1) 40(place 3). Stride 2.
     */
    private static RowStore marked() {
        RowStore x = with(10, 20, 30, 40);
        x.pack();
        x.stride(2);
        x.put(5, 500);
        x.put(25, 250);
        x.put(15, 150);
        return x;
    }

    private static int[] keysOf(RowStore x, int level, int row) {
        int[] keys = new int[x.row(level, row, 1)];
        for (int i = 0; i < keys.length; i++) {
            keys[i] = x.thing(level, row, i, 0);
        }
        return keys;
    }

    private static void newObject() {
        RowStore x = new RowStore();
        int[] counts = {0, 0, 0, 0, 0, 0, 0, 0, 0, NONE, 6, 4, 0, 0, 0, 0};
        for (int what = 0; what < 16; what++) {
            due("count(" + what + ")", counts[what], x.count(what));
        }
        for (int level = 0; level < 9; level++) {
            due("row(level, 0, 0)", 0, x.row(level, 0, 0));
            due("row(level, 1, 0)", 0, x.row(level, 1, 0));
        }
        due("row(8, 2, 0)", 0, x.row(8, 2, 0));
        due("NONE", -1, RowStore.NONE);
        due("next(-1)", NONE, x.next(-1));
    }

    private static void feed() {
        RowStore x = new RowStore();
        for (int i = 1; i <= 10; i++) {
            due("feed", 20 * i, x.feed(-1, 0, Integer.MIN_VALUE, Integer.MAX_VALUE, i));
        }
        unchanged("feed beyond 200", x, NONE, () -> x.feed(0, 0, 0, 0, 0));
        due("count(13)", 200, x.count(13));
        RowStore y = new RowStore();
        y.feed(0x05070A0B, 0xC7FE0000, 0, 0, 0x63580001);
        due("batch", 10, y.batch(20));
        due("find(5)", 7, y.find(5));
        due("find(10)", 11, y.find(10));
        due("find(199)", 254, y.find(199));
        due("find(99)", 88, y.find(99));
        due("find(0)", 1, y.find(0));
    }

    private static void batch() {
        RowStore x = new RowStore();
        due("batch(0) of nothing", 0, x.batch(0));
        due("batch(2) of nothing", NONE, x.batch(2));
        x.feed(0x01090209, 0xC80901FF, 0xFFFF0309, 0x04090509, 0x06090709);
        unchanged("batch(-2)", x, NONE, () -> x.batch(-2));
        unchanged("batch(3)", x, NONE, () -> x.batch(3));
        unchanged("batch(22)", x, NONE, () -> x.batch(22));
        due("batch(14)", 5, x.batch(14));
        due("the tape is empty", 0, x.count(13));
        due("acts", 5, x.count(0));
        due("find(1)", NONE, x.find(1));
        due("find(2)", 9, x.find(2));
        due("find(4)", 9, x.find(4));
        due("find(5)", NONE, x.find(5));
        due("toll(4)", 0, x.toll(4));
        due("toll(3)", 2, x.toll(3));
        x.feed(0, 0, 0, 0, 0);
        due("batch(0)", 0, x.batch(0));
        due("the tape is empty", 0, x.count(13));
    }

    private static void put() {
        RowStore x = new RowStore();
        int[] steps = {0, 2, 0, 6, 0, 2, 0, 6, 6, 4};
        for (int i = 0; i < steps.length; i++) {
            due("put " + i, steps[i], x.put(i, 999 - i));
        }
        due("find(0)", 999, x.find(0));
        due("put(199, 0)", 0, x.put(199, 0));
        due("find(199)", 0, x.find(199));
        unchanged("put(-1, 0)", x, NONE, () -> x.put(-1, 0));
        unchanged("put(200, 0)", x, NONE, () -> x.put(200, 0));
        unchanged("put(0, -1)", x, NONE, () -> x.put(0, -1));
        unchanged("put(0, 1000)", x, NONE, () -> x.put(0, 1000));
        RowStore y = new RowStore();
        y.budget(0);
        y.put(1, 1);
        y.put(2, 2);
        due("put is forced to", 2, y.put(3, 3));
        due("forced", 2, y.count(2));
        y.budget(1);
        y.put(4, 4);
        due("put takes forced steps and those of the budget", 2, y.put(5, 5));
    }

    private static void drop() {
        RowStore x = new RowStore();
        due("drop of no key", 0, x.drop(7));
        due("its sign", NONE, x.thing(0, 0, 0, 1));
        due("an act", 1, x.count(0));
        due("drop(199)", 2, x.drop(199));
        due("all signs are gone from a bare level", 0, x.count(7));
        due("signs gone", 2, x.count(5));
        x.put(3, 30);
        x.drop(3);
        due("find(3)", NONE, x.find(3));
        unchanged("drop(-1)", x, NONE, () -> x.drop(-1));
        unchanged("drop(200)", x, NONE, () -> x.drop(200));
        RowStore y = with(1, 2);
        y.drop(1);
        y.budget(0);
        y.drop(9);
        due("a level with rows behind it keeps signs", 2, y.steps(2));
        due("signs in the row", 2, y.row(1, 1, 4));
    }

    private static void steps() {
        RowStore x = new RowStore();
        due("steps of nothing", 0, x.steps(1000));
        x.budget(0);
        x.put(1, 1);
        x.put(2, 2);
        due("steps(0)", 0, x.steps(0));
        due("steps(1)", 1, x.steps(1));
        due("one is left", 1, x.level(0, 5));
        due("steps(1000)", 1, x.steps(1000));
        due("steps ever", 2, x.count(1));
        due("none is forced", 0, x.count(2));
        due("no act took any", 0, x.count(3));
        unchanged("steps(-1)", x, NONE, () -> x.steps(-1));
        unchanged("steps(1001)", x, NONE, () -> x.steps(1001));
    }

    private static void budget() {
        RowStore x = new RowStore();
        due("budget(40)", 6, x.budget(40));
        due("budget(0)", 40, x.budget(0));
        unchanged("budget(-1)", x, NONE, () -> x.budget(-1));
        unchanged("budget(41)", x, NONE, () -> x.budget(41));
        due("budget(1)", 0, x.budget(1));
        x.put(1, 1);
        due("put", 1, x.put(2, 2));
    }

    private static void stride() {
        RowStore x = marked();
        due("marks", 2, x.level(1, 8));
        due("stride(8)", 2, x.stride(8));
        due("marks", 0, x.level(1, 8));
        unchanged("stride(1)", x, NONE, () -> x.stride(1));
        unchanged("stride(9)", x, NONE, () -> x.stride(9));
        due("stride(3)", 8, x.stride(3));
        due("marks", 1, x.level(1, 8));
        due("place", 2, x.entry(1, 0, 2, 3));
    }

    private static void find() {
        RowStore x = marked();
        due("find(5)", 500, x.find(5));
        due("find(40)", 40, x.find(40));
        due("find(6)", NONE, x.find(6));
        due("find(-1)", NONE, x.find(-1));
        due("find(200)", NONE, x.find(200));
        x.budget(0);
        x.put(40, 41);
        due("the lower level's", 41, x.find(40));
        x.put(40, 42);
        due("the younger row's", 42, x.find(40));
        x.steps(1);
        due("an open row is not asked", 42, x.find(40));
        x.drop(40);
        due("a sign", NONE, x.find(40));
    }

    private static void looks() {
        RowStore x = marked();
        due("by marks", 7, x.looks(30, false));
        due("plain", 5, x.looks(30, true));
        due("by marks, in the first row", 3, x.looks(15, false));
        due("plain, in the first row", 2, x.looks(15, true));
        due("a key that is not there", 0, new RowStore().looks(0, false));
        none("looks(-1)", () -> x.looks(-1, false));
        none("looks(200)", () -> x.looks(200, true));
    }

    private static void falls() {
        RowStore x = marked();
        due("falls(30, 0, 0)", 2, x.falls(30, 0, 0));
        due("falls(30, 1, 0)", 3, x.falls(30, 1, 0));
        due("falls(30, 2, 0)", 2, x.falls(30, 2, 0));
        due("found ahead", 1, x.falls(15, 2, 0));
        due("behind all", 4, x.falls(199, 2, 0));
        none("key", () -> x.falls(-1, 0, 0));
        none("key", () -> x.falls(200, 0, 0));
        none("level", () -> x.falls(0, -1, 0));
        none("level", () -> x.falls(0, 9, 0));
        none("row", () -> x.falls(0, 0, 2));
        none("row", () -> x.falls(0, 0, -1));
        none("row", () -> x.falls(0, 8, 3));
        none("free row", () -> x.falls(0, 0, 1));
    }

    private static void bounds() {
        RowStore x = marked();
        due("low of the first", 0, x.bounds(30, 0, 0, false));
        due("high of the first", 3, x.bounds(30, 0, 0, true));
        due("low", 2, x.bounds(30, 1, 0, false));
        due("high", 3, x.bounds(30, 1, 0, true));
        due("no mark ahead", 0, x.bounds(5, 1, 0, false));
        due("the first mark", 1, x.bounds(5, 1, 0, true));
        due("behind the last mark", 4, x.bounds(199, 2, 0, false));
        due("no mark behind", 4, x.bounds(199, 2, 0, true));
        due("the key of a mark: from there on", 1, x.bounds(20, 1, 0, true));
        x.pack();
        due("no lead ahead", 7, x.bounds(30, 3, 0, true));
        none("key", () -> x.bounds(200, 3, 0, true));
        none("level", () -> x.bounds(0, 9, 0, true));
        none("row", () -> x.bounds(0, 3, 2, true));
        none("not shut", () -> x.bounds(0, 2, 0, true));
    }

    private static void route() {
        RowStore x = marked();
        due("rows", 3, x.route(30, NONE, 0));
        due("rows, found at once", 1, x.route(15, NONE, 5));
        int[] want = {1, 0, 2, 3, 3, 2};
        for (int what = 0; what < 6; what++) {
            due("what " + what, want[what], x.route(30, 1, what));
        }
        x.budget(0);
        x.put(16, 1);
        due("the youngest row first", 1, x.route(30, 0, 1));
        none("key", () -> x.route(-1, NONE, 0));
        none("key", () -> x.route(200, NONE, 0));
        none("row", () -> x.route(16, 1, 0));
        none("row", () -> x.route(16, -2, 0));
        none("what", () -> x.route(16, 0, 6));
        none("what", () -> x.route(16, 0, -1));
    }

    private static void next() {
        RowStore x = with(0, 50, 199);
        x.drop(50);
        due("next(-1)", 0, x.next(-1));
        due("next(0)", 199, x.next(0));
        due("next(199)", NONE, x.next(199));
        none("next(-2)", () -> x.next(-2));
        none("next(200)", () -> x.next(200));
    }

    private static void nth() {
        RowStore x = with(199, 50, 0);
        x.drop(50);
        due("nth(0)", 0, x.nth(0));
        due("nth(1)", 199, x.nth(1));
        none("nth(2)", () -> x.nth(2));
        none("nth(-1)", () -> x.nth(-1));
    }

    private static void waste() {
        RowStore x = new RowStore();
        x.budget(0);
        x.put(1, 1);
        x.put(1, 2);
        due("waste(0)", 1, x.waste(0));
        due("waste(1)", 0, x.waste(1));
        due("waste(2)", 1, x.waste(2));
        RowStore y = with(1, 2);
        y.budget(0);
        y.drop(1);
        y.drop(9);
        due("hidden by a sign", 1, y.waste(0));
        due("signs with nothing behind", 1, y.waste(1));
        due("all but the key that is there", 3, y.waste(2));
        none("waste(3)", () -> x.waste(3));
        none("waste(-1)", () -> x.waste(-1));
    }

    private static void many() {
        RowStore x = with(0, 50, 60, 199);
        x.drop(60);
        due("all", 3, x.many(0, 199));
        due("both ends, too", 1, x.many(50, 50));
        due("between", 0, x.many(51, 198));
        due("turned round", 0, x.many(199, 0));
        none("from", () -> x.many(-1, 0));
        none("to", () -> x.many(0, 200));
        none("from", () -> x.many(200, 0));
        none("to", () -> x.many(0, -1));
    }

    private static void trace() {
        RowStore x = marked();
        due("rows", 1, x.trace(30, 0));
        due("level", 2, x.trace(30, 1));
        due("row", 0, x.trace(30, 2));
        due("rows of no key", 0, x.trace(31, 0));
        due("level of no key", NONE, x.trace(31, 1));
        due("row of no key", NONE, x.trace(31, 2));
        x.budget(0);
        x.drop(30);
        due("rows with a sign", 2, x.trace(30, 0));
        due("a sign's level", 0, x.trace(30, 1));
        due("a sign's row", 1, x.trace(30, 2));
        none("key", () -> x.trace(-1, 0));
        none("key", () -> x.trace(200, 0));
        none("what", () -> x.trace(0, 3));
        none("what", () -> x.trace(0, -1));
    }

    private static void level() {
        RowStore x = marked();
        int[] one = {1, 0, 2, 1, 4, 0, 0, 0, 2};
        for (int what = 0; what < 9; what++) {
            due("level(1, " + what + ")", one[what], x.level(1, what));
        }
        RowStore y = new RowStore();
        y.budget(1);
        y.put(1, 1);
        y.drop(2);
        int[] merging = {2, 1, 2, 0, 1, 1, 1, 1, 0};
        for (int what = 0; what < 9; what++) {
            due("level(0, " + what + ") as it merges", merging[what], y.level(0, what));
        }
        due("no lead", NONE, y.level(8, 7));
        due("no marks", 0, y.level(8, 8));
        none("level", () -> x.level(-1, 0));
        none("level", () -> x.level(9, 0));
        none("what", () -> x.level(0, 9));
        none("what", () -> x.level(0, -1));
    }

    private static void row() {
        RowStore x = marked();
        int[] shut = {2, 2, 4, 2, 0, 1};
        for (int what = 0; what < 6; what++) {
            due("row(1, 0, " + what + ")", shut[what], x.row(1, 0, what));
        }
        int[] free = {0, 0, 0, 0, 0, NONE};
        for (int what = 0; what < 6; what++) {
            due("row(8, 2, " + what + ")", free[what], x.row(8, 2, what));
        }
        x.budget(1);
        x.drop(12);
        int[] open = {1, 1, 0, 0, 1, NONE};
        for (int what = 0; what < 6; what++) {
            due("row(1, 1, " + what + ") open", open[what], x.row(1, 1, what));
        }
        due("the younger row comes first", 0, x.row(0, 1, 5));
        due("the elder one behind it", 1, x.row(0, 0, 5));
        none("level", () -> x.row(-1, 0, 0));
        none("level", () -> x.row(9, 0, 0));
        none("row", () -> x.row(7, 2, 0));
        none("row", () -> x.row(8, 3, 0));
        none("row", () -> x.row(0, -1, 0));
        none("what", () -> x.row(0, 0, 6));
        none("what", () -> x.row(0, 0, -1));
    }

    private static void thing() {
        RowStore x = marked();
        dueAll("level 2", new int[] {10, 20, 30, 40}, keysOf(x, 2, 0));
        due("value", 250, x.thing(1, 0, 1, 1));
        x.budget(1);
        x.drop(12);
        due("of an open row", 12, x.thing(1, 1, 0, 0));
        due("a sign", NONE, x.thing(1, 1, 0, 1));
        none("behind all", () -> x.thing(1, 0, 2, 0));
        none("ahead of all", () -> x.thing(1, 0, -1, 0));
        none("free row", () -> x.thing(3, 0, 0, 0));
        none("row", () -> x.thing(0, 2, 0, 0));
        none("level", () -> x.thing(9, 0, 0, 0));
        none("what", () -> x.thing(1, 0, 0, 2));
        none("what", () -> x.thing(1, 0, 0, -1));
    }

    private static void entry() {
        RowStore x = marked();
        int[][] want = {{5, 0, 500, NONE}, {20, 2, 0, 1}, {25, 0, 250, NONE}, {40, 2, 0, 3}};
        for (int i = 0; i < 4; i++) {
            for (int what = 0; what < 4; what++) {
                due("entry(1, 0, " + i + ", " + what + ")", want[i][what], x.entry(1, 0, i, what));
            }
        }
        x.budget(0);
        x.drop(20);
        int[][] lead = {{20, 1, NONE, NONE}, {20, 2, 0, 1}, {40, 2, 0, 3}};
        for (int i = 0; i < 3; i++) {
            for (int what = 0; what < 4; what++) {
                due("entry(0, 1, " + i + ", " + what + ")", lead[i][what], x.entry(0, 1, i, what));
            }
        }
        due("marks are the lead's alone", 1, x.row(0, 0, 2));
        none("behind all", () -> x.entry(1, 0, 4, 0));
        none("ahead of all", () -> x.entry(1, 0, -1, 0));
        none("open row", () -> x.entry(1, 1, 0, 0));
        none("free row", () -> x.entry(3, 0, 0, 0));
        none("row", () -> x.entry(1, 2, 0, 0));
        none("level", () -> x.entry(-1, 0, 0, 0));
        none("what", () -> x.entry(1, 0, 0, 4));
        none("what", () -> x.entry(1, 0, 0, -1));
        marksOfTwoRows();
    }

    /** Of like keys the marks of the younger row come first. */
    private static void marksOfTwoRows() {
        RowStore x = new RowStore();
        x.stride(2);
        x.budget(2);
        x.put(1, 1);
        x.put(3, 1);
        x.put(2, 1);
        x.put(3, 2);
        x.put(9, 1);
        due("two rows behind", 2, x.level(1, 0));
        int[][] want = {{3, 2, 1, 1}, {3, 2, 0, 1}, {9, 0, 1, NONE}};
        for (int i = 0; i < 3; i++) {
            for (int what = 0; what < 4; what++) {
                due("entry(0, 0, " + i + ", " + what + ")", want[i][what], x.entry(0, 0, i, what));
            }
        }
    }

    private static void count() {
        RowStore x = new RowStore();
        x.put(5, 10);
        x.put(3, 20);
        x.put(7, 30);
        x.drop(3);
        x.put(5, 11);
        x.budget(0);
        x.put(5, 12);
        x.put(5, 13);
        x.stride(8);
        x.feed(0, 0, 0, 0, 0);
        int[] want = {7, 8, 1, 5, 2, 1, 2, 3, 4, 2, 0, 8, 0, 20};
        for (int what = 0; what < want.length; what++) {
            due("count(" + what + ")", want[what], x.count(what));
        }
        due("levels that merge", 1, oneMerges().count(12));
        RowStore y = marked();
        int most = 0;
        int plain = 0;
        for (int key = 0; key < 200; key++) {
            most = Math.max(most, y.looks(key, false));
            plain = Math.max(plain, y.looks(key, true));
        }
        due("most looks", most, y.count(14));
        due("most looks, plain", plain, y.count(15));
        none("count(16)", () -> x.count(16));
        none("count(-1)", () -> x.count(-1));
    }

    private static RowStore oneMerges() {
        RowStore x = new RowStore();
        x.budget(0);
        x.put(1, 1);
        x.put(2, 2);
        return x;
    }

    private static void toll() {
        RowStore x = new RowStore();
        none("toll(0) of none", () -> x.toll(0));
        for (int i = 0; i < 4; i++) {
            x.put(i, i);
        }
        due("toll(0)", 6, x.toll(0));
        due("toll(2)", 2, x.toll(2));
        due("toll(3)", 0, x.toll(3));
        none("toll(4)", () -> x.toll(4));
        none("toll(-1)", () -> x.toll(-1));
        for (int i = 0; i < 38; i++) {
            x.put(i, i);
        }
        due("the eldest that is kept", 0, x.toll(39));
        due("the fourth act", 6, x.toll(38));
        none("toll(40)", () -> x.toll(40));
    }

    private static void ahead() {
        RowStore x = new RowStore();
        int[] four = {8, 0, 6, 1, 4};
        for (int what = 0; what < 5; what++) {
            int w = what;
            unchanged("ahead(4, " + what + ")", x, four[what], () -> x.ahead(4, w));
            due("ahead(0, " + what + ")", 0, x.ahead(0, what));
        }
        x.put(48, 1);
        due("a key that is there", 4, x.ahead(4, 4));
        x.budget(0);
        due("forced", 4, x.ahead(4, 1));
        RowStore y = new RowStore();
        y.budget(0);
        y.drop(1);
        y.drop(2);
        y.steps(1);
        due("a bare level is bare ahead, too", 1, y.ahead(1, 3));
        y.put(3, 3);
        due("as it came", 1, y.count(7));
        due("ahead(64, 4)", 64, x.ahead(64, 4));
        none("what", () -> x.ahead(0, 5));
        none("what", () -> x.ahead(0, -1));
        none("what comes first", () -> x.ahead(65, 5));
        refused("n", IllegalArgumentException.class, () -> x.ahead(65, 0));
        refused("n", IllegalArgumentException.class, () -> x.ahead(-1, 0));
    }

    private static void calm() {
        RowStore x = new RowStore();
        x.budget(40);
        int[] want = {0, 0, 0, 2, 2, 2, 2, 3};
        for (int n = 0; n < want.length; n++) {
            int many = n;
            unchanged("calm(" + n + ")", x, want[n], () -> x.calm(many));
        }
        refused("n", IllegalArgumentException.class, () -> x.calm(65));
        refused("n", IllegalArgumentException.class, () -> x.calm(-1));
        due("calm at once, where level 0 is full and nothing helps", NONE, oneMerges().calm(1));
        due("the greatest budget that helps", 40, fullButForOne(10).calm(2));
        due("one step too many", NONE, fullButForOne(11).calm(2));
    }

    /** Room for one act; then this many steps of level 4, and 16, 8, 4 and 2 of those ahead, make room for another. */
    private static RowStore fullButForOne(int left) {
        RowStore x = new RowStore();
        x.budget(0);
        for (int key = 0; key < 61; key++) {
            x.put(key, 1);
        }
        due("level 4 merges alone", 1, x.count(12));
        x.steps(x.level(4, 5) - left);
        due("left in level 4", left, x.level(4, 5));
        due("free in level 0", 0, x.row(0, 1, 0));
        return x;
    }

    private static void dueBehind() {
        RowStore x = new RowStore();
        unchanged("due(0)", x, 2, () -> x.due(0));
        due("due(1)", 4, x.due(1));
        due("due(2)", 10, x.due(2));
        due("due(8)", NONE, x.due(8));
        x.put(1, 1);
        due("due(0), one act later", 1, x.due(0));
        none("level", () -> x.due(9));
        none("level", () -> x.due(-1));
        // Level 5 begins at the 64th act, which needs 126 steps in all: at the 67th it is through.
        RowStore y = new RowStore();
        y.budget(40);
        y.put(111, 1);
        y.put(148, 1);
        due("the 65th act", NONE, y.due(5));
        y.put(185, 1);
        due("the 64th act", 64, y.due(5));
    }

    private static void pack() {
        RowStore x = new RowStore();
        due("pack of nothing", 0, x.pack());
        x.budget(0);
        x.put(9, 90);
        x.put(8, 80);
        x.put(7, 70);
        x.drop(9);
        int acts = x.count(0);
        due("levels merge", 1, x.count(12));
        due("pack", 2, x.pack());
        due("no act", acts, x.count(0));
        dueAll("all keys", new int[] {7, 8}, keysOf(x, 1, 0));
        due("values", 80, x.thing(1, 0, 1, 1));
        due("shut rows", 1, x.count(7));
        due("no level merges", 0, x.count(12));
        x.drop(7);
        x.drop(8);
        due("pack of signs", 0, x.pack());
        due("no rows", 0, x.count(7));
        RowStore y = new RowStore();
        for (int key = 0; key < 200; key++) {
            due("pack", key, y.pack());
            y.put(key, 1);
        }
        due("pack of all keys", 200, y.pack());
        due("in the last level", 2, y.row(8, 0, 0));
        RowStore z = with(1, 2, 3, 4, 5);
        z.pack();
        due("five things in the level of eight", 5, z.row(3, 0, 1));
    }

    private static void view() {
        RowStore x = new RowStore();
        due("of nothing", 0, x.view(2));
        x.put(1, 1);
        due("in place of another one", 1, x.view(2));
        unchanged("view(-1)", x, NONE, () -> x.view(-1));
        unchanged("view(3)", x, NONE, () -> x.view(3));
        x.put(2, 2);
        due("seen then", NONE, x.seen(2, 2));
        RowStore y = oneMerges();
        y.steps(1);
        due("open rows are not kept", 2, y.view(0));
    }

    private static void leave() {
        RowStore x = with(1, 2, 3);
        x.view(1);
        due("leave", 2, x.leave(1));
        due("again", NONE, x.leave(1));
        due("leave(0)", NONE, x.leave(0));
        due("leave(-1)", NONE, x.leave(-1));
        due("leave(3)", NONE, x.leave(3));
        none("seen", () -> x.seen(1, 1));
    }

    private static void seen() {
        RowStore x = with(1, 2, 3);
        x.drop(2);
        x.view(0);
        for (int i = 0; i < 50; i++) {
            x.put(i, 500);
        }
        due("seen(0, 1)", 1, x.seen(0, 1));
        due("seen(0, 2)", NONE, x.seen(0, 2));
        due("seen(0, 4)", NONE, x.seen(0, 4));
        none("view", () -> x.seen(1, 1));
        none("view", () -> x.seen(-1, 1));
        none("view", () -> x.seen(3, 1));
        none("key", () -> x.seen(0, -1));
        none("key", () -> x.seen(0, 200));
    }

    private static void against() {
        RowStore x = with(1, 2, 3);
        x.view(0);
        x.put(2, 5);
        x.drop(1);
        x.put(9, 9);
        x.put(3, 3);
        due("keys in it", 3, x.against(0, 0));
        due("lost or other", 2, x.against(0, 1));
        due("new ones", 1, x.against(0, 2));
        none("what", () -> x.against(0, 4));
        none("what", () -> x.against(0, -1));
        none("view", () -> x.against(1, 0));
        none("view", () -> x.against(3, 0));
        none("view", () -> x.against(-1, 0));
        RowStore y = with(1, 2, 3);
        y.view(0);
        due("rows that are shut yet", 2, y.against(0, 3));
        y.budget(2);
        y.put(4, 4);
        due("one of them was merged", 1, y.against(0, 3));
        y.put(5, 5);
        due("another row in its place is not it", 1, y.against(0, 3));
        y.restore(0);
        due("both are shut again", 2, y.against(0, 3));
    }

    private static void between() {
        RowStore x = with(1, 2, 3);
        x.view(0);
        due("with itself", 0, x.between(0, 0));
        x.put(2, 5);
        x.drop(1);
        x.put(9, 9);
        x.view(2);
        due("between(0, 2)", 3, x.between(0, 2));
        due("between(2, 0)", 3, x.between(2, 0));
        none("not taken", () -> x.between(0, 1));
        none("not taken", () -> x.between(1, 0));
        none("no such", () -> x.between(0, 3));
        none("no such", () -> x.between(-1, 0));
    }

    private static void restore() {
        RowStore x = oneMerges();
        x.put(3, 3);
        x.put(4, 4);
        due("the view", 3, x.view(0));
        x.steps(1);
        due("under way", 1, x.level(0, 5));
        due("restore", 3, x.restore(0));
        due("the merge begins anew", 2, x.level(0, 5));
        due("the open row is empty", 0, x.row(1, 1, 1));
        due("acts are as they were", 4, x.count(0));
        x.steps(1000);
        x.pack();
        x.put(7, 7);
        due("restore", 3, x.restore(0));
        due("find(7)", NONE, x.find(7));
        due("find(4)", 4, x.find(4));
        due("the younger row is as it was", 1, x.level(0, 7));
        x.drop(4);
        due("what comes later is younger", NONE, x.find(4));
        due("the view stays", 4, x.seen(0, 4));
        RowStore y = new RowStore();
        y.drop(5);
        y.view(1);
        y.pack();
        y.restore(1);
        due("signs come back", 1, y.row(0, 0, 4));
        unchanged("restore(1)", x, NONE, () -> x.restore(1));
        unchanged("restore(-1)", x, NONE, () -> x.restore(-1));
        unchanged("restore(3)", x, NONE, () -> x.restore(3));
    }

    public static void main(String[] args) {
        Runnable[] promises = {
            PromiseTest::newObject, PromiseTest::feed, PromiseTest::batch, PromiseTest::put, PromiseTest::drop,
            PromiseTest::steps, PromiseTest::budget, PromiseTest::stride, PromiseTest::find, PromiseTest::looks,
            PromiseTest::falls, PromiseTest::bounds, PromiseTest::route, PromiseTest::next, PromiseTest::nth,
            PromiseTest::waste, PromiseTest::many, PromiseTest::trace, PromiseTest::level, PromiseTest::row,
            PromiseTest::thing, PromiseTest::entry, PromiseTest::count, PromiseTest::toll, PromiseTest::ahead,
            PromiseTest::calm, PromiseTest::dueBehind, PromiseTest::pack, PromiseTest::view, PromiseTest::leave,
            PromiseTest::seen, PromiseTest::against, PromiseTest::between, PromiseTest::restore};
        for (Runnable each : promises) {
            promise++;
            each.run();
        }
        if (wrong > 0 || promise != 34) {
            System.exit(1);
        }
    }
}
