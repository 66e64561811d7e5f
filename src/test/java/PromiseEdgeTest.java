/** The edges that the document's promises name, promise by promise; what is refused stands in RefusalTest. */
public final class PromiseEdgeTest {
    private static final int NONE = RowStore.NONE;

    private static void life() {
        Checks.says("An object is used for at most 512 calls after it has been made");
        RowStore x = new RowStore();
        for (int i = 0; i < 511; i++) {
            x.put(i % 200, i);
        }
        Checks.due("the 512th call", 510, x.find(110));
        RowStore y = new RowStore();
        for (int i = 0; i < 46; i++) {
            Checks.round(y, 0, 100, i);
        }
        Checks.due("all acts that 506 calls can take", 4600, y.count(0));
        Checks.due("keys", 100, y.count(6));
        Checks.due("find(99)", 45, y.find(99));
    }

    private static void empty() {
        Checks.says("An empty store.");
        RowStore x = new RowStore();
        Checks.due("find", NONE, x.find(0));
        Checks.due("looks", 0, x.looks(0, false));
        Checks.due("looks, plain", 0, x.looks(199, true));
        Checks.due("route", 0, x.route(0, NONE, 0));
        Checks.due("next(-1)", NONE, x.next(-1));
        Checks.due("many", 0, x.many(0, 199));
        for (int what = 0; what < 3; what++) {
            Checks.due("waste", 0, x.waste(what));
            Checks.due("trace", what == 0 ? 0 : NONE, x.trace(0, what));
        }
        int[] counts = {0, 0, 0, 0, 0, 0, 0, 0, 0, NONE, 6, 4, 0, 0, 0, 0};
        for (int what = 0; what < 16; what++) {
            Checks.due("count(" + what + ")", counts[what], x.count(what));
        }
        for (int level = 0; level < 9; level++) {
            for (int what = 0; what < 9; what++) {
                Checks.due("level(" + level + ", " + what + ")", what == 7 ? NONE : 0, x.level(level, what));
            }
            for (int row = 0; row < Checks.rowsOf(level); row++) {
                rowIs(x, level, row, 0, 0, 0, 0, 0, NONE);
            }
        }
        Checks.due("steps", 0, x.steps(1000));
        Checks.due("batch(0)", 0, x.batch(0));
        Checks.due("pack", 0, x.pack());
        Checks.due("view", 0, x.view(0));
    }

    private static void feed() {
        Checks.says("Twenty bytes come behind the tape, of each number the highest first: how many it has;"
                + " NONE, and none come, if it would have more than 200.");
        RowStore x = new RowStore();
        for (int i = 1; i <= 10; i++) {
            Checks.due("feed", 20 * i, x.feed(0x01000200 | i, 0x03000400 | i, -1, -1, -1));
        }
        Checks.due("beyond 200", NONE, x.feed(0x01630263, 0, 0, 0, 0));
        Checks.due("bytes", 200, x.count(13));
        Checks.due("acts", 40, x.batch(200));
        Checks.due("the tenth feed's, not the eleventh's", 10, x.find(2));
        Checks.due("none came", 0, x.find(1));
        Checks.due("the tape takes again", 20, x.feed(0, 0, 0, 0, 0));
        RowStore y = new RowStore();
        y.feed(Integer.MIN_VALUE, Integer.MAX_VALUE, 0xC6FEC7FD, 0x00010203, 0x04050607);
        Checks.due("acts of all but 255", 9, y.batch(20));
        Checks.due("find(128), a byte above 127", 0, y.find(128));
        Checks.due("find(198), a value above 127", 254, y.find(198));
        Checks.due("find(199)", 253, y.find(199));
        Checks.due("find(127), dropped", NONE, y.find(127));
        Checks.due("find(0), the later one", 1, y.find(0));
        Checks.due("find(6), the last number's", 7, y.find(6));
        Checks.due("find(4)", 5, y.find(4));
    }

    private static void batch() {
        Checks.says("The tape's first n bytes (it is empty then), by twos: a KEY and a VALUE (255: it is dropped),"
                + " an ACT each; where the KEY is above 199, nothing: how many ACTS.");
        RowStore x = new RowStore();
        x.feed(0xC7FEC800, 0x05FFFFFF, 0xC8FF0600, 0x07000800, 0x09000A00);
        Checks.due("acts of 199, 5 and 6; none of 200 and 255", 3, x.batch(12));
        Checks.due("the tape is empty", 0, x.count(13));
        Checks.due("acts", 3, x.count(0));
        Checks.due("254 is a value", 254, x.find(199));
        Checks.due("255 drops", NONE, x.find(5));
        Checks.due("a sign came", 1, x.trace(5, 0) + x.count(5));
        Checks.due("0 is a value", 0, x.find(6));
        Checks.due("what lay behind is gone", NONE, x.find(7));
        Checks.due("nothing is left to take", NONE, x.batch(2));
        RowStore y = new RowStore();
        y.feed(0x01010202, 0, 0, 0, 0);
        Checks.due("the first two bytes alone", 1, y.batch(2));
        Checks.due("find(1)", 1, y.find(1));
        Checks.due("find(2)", NONE, y.find(2));
        y.feed(-1, -1, -1, -1, -1);
        Checks.due("no key at all", 0, y.batch(20));
        Checks.due("no act", 1, y.count(0));
        y.feed(0x03030404, 0, 0, 0, 0);
        Checks.due("none of it", 0, y.batch(0));
        Checks.due("it is empty then", 0, y.count(13));
        RowStore z = new RowStore();
        z.feed(0x01010202, 0x03030404, 0x05050606, 0x07070808, 0x09090A0A);
        Checks.due("refused", NONE, z.batch(22));
        Checks.due("all of it yet", 10, z.batch(20));
        for (int i = 0; i < 10; i++) {
            Checks.due("toll of act " + i, new int[] {0, 2, 0, 6, 0, 2, 0, 6, 6, 4}[i], z.toll(9 - i));
        }
    }

    private static void steps() {
        Checks.says("So many STEPS (0 to 1000), or till none MERGES: how many were taken.");
        RowStore x = Checks.made(Checks::jam);
        Checks.due("steps(0)", 0, x.steps(0));
        Checks.due("four of level 1 and two of level 0 are left: 5", 5, x.steps(5));
        Checks.due("one is left", 1, x.count(12));
        Checks.due("one more", 1, x.steps(2));
        Checks.due("none", 0, x.steps(1));
        Checks.due("none was forced", 4, x.count(2));
        Checks.due("steps ever", 10, x.count(1));
        RowStore full = Checks.made(Checks::fill);
        Checks.due("853 of all that can be left", 853, full.steps(853));
        Checks.due("one is left", 1, full.count(12));
        Checks.due("the last one", 1, full.steps(1000));
        Checks.due("none merges", 0, full.count(12));
        Checks.due("all of a full store", 854, Checks.made(Checks::fill).steps(1000));
    }

    private static void settings() {
        Checks.says("BUDGET is told: what it was.");
        RowStore x = new RowStore();
        Checks.due("budget(0)", 6, x.budget(0));
        Checks.due("budget(40)", 0, x.budget(40));
        Checks.due("budget(41)", NONE, x.budget(41));
        Checks.due("budget(40) again", 40, x.budget(40));
        Checks.says("STRIDE is told (MARKS are others from then on): what it was.");
        Checks.due("stride(8)", 4, x.stride(8));
        Checks.due("stride(2)", 8, x.stride(2));
        Checks.due("stride(1)", NONE, x.stride(1));
        Checks.due("stride(2) again", 2, x.stride(2));
        RowStore y = Checks.packed(100, 8);
        Checks.putAll(y, 1, 2, 3, 4);
        int[] marks = {0, 0, 4, 2, 2, 1, 1, 1, 1};
        for (int stride = 2; stride <= 8; stride++) {
            y.stride(stride);
            Checks.due("marks at once by " + stride, marks[stride], y.level(2, 8));
        }
    }

    private static void looks() {
        Checks.says("How many LOOKS it takes to FIND a KEY (that is or isn't THERE), PLAIN or by MARKS.");
        RowStore x = Checks.packed(100, 2);
        x.stride(2);
        x.put(50, 1);
        // Level 0: 50 101(1). Level 1: 100 101.
        Checks.due("found ahead", 3, x.looks(50, false));
        Checks.due("found behind: 3 and 2", 5, x.looks(100, false));
        Checks.due("the mark is not it: 3 and 2", 5, x.looks(101, false));
        Checks.due("lower than all", 5, x.looks(0, false));
        Checks.due("higher than all: 1 and none", 1, x.looks(199, false));
        Checks.due("plain, found ahead", 2, x.looks(50, true));
        Checks.due("plain, found behind", 4, x.looks(101, true));
        Checks.due("plain, higher than all", 2, x.looks(199, true));
        x.budget(0);
        x.drop(100);
        Checks.due("a sign is found, too", 1, x.route(100, NONE, 0));
        Checks.due("looks for a sign", 3, x.looks(100, false));
        Checks.due("plain", 2, x.looks(100, true));
    }

    private static void falls() {
        Checks.says("Where a KEY FALLS in a SHUT ROW, by MARKS, as if it were not found ahead.");
        RowStore x = Checks.packed(100, 2);
        x.stride(2);
        x.budget(0);
        x.put(101, 1);
        Checks.due("ahead of all", 0, x.falls(0, 1, 0));
        Checks.due("at the last", 1, x.falls(101, 1, 0));
        Checks.due("behind all", 2, x.falls(102, 1, 0));
        Checks.due("it was found ahead", 1, x.route(101, NONE, 0));
        Checks.due("at the thing, ahead of its mark", 0, x.falls(101, 0, 0));
        Checks.due("behind thing and mark", 2, x.falls(102, 0, 0));
        x.put(101, 2);
        Checks.due("in the elder row", 0, x.falls(101, 0, 0));
        Checks.due("behind its one thing", 1, x.falls(102, 0, 0));
        Checks.says("Between what a KEY FALLS in a SHUT ROW, by MARKS, as if it were not found ahead: low (high false),"
                + " high.");
        Checks.due("low of the first level", 0, x.bounds(101, 0, 1, false));
        Checks.due("high of the first level", 2, x.bounds(101, 0, 1, true));
        Checks.due("low", 0, x.bounds(101, 1, 0, false));
        Checks.due("high is the mark's place", 1, x.bounds(101, 1, 0, true));
        Checks.due("low behind the mark", 2, x.bounds(102, 1, 0, false));
        Checks.due("high behind the mark", 2, x.bounds(102, 1, 0, true));
        RowStore full = Checks.made(Checks::fill);
        Checks.due("in the last level", 199, full.falls(199, 8, 1));
        Checks.due("in its elder row", 0, full.falls(0, 8, 0));
    }

    private static void route() {
        Checks.says("Of the i-th ROW (0 on) to which one goes to FIND a KEY by MARKS; i NONE: how many ROWS.");
        RowStore x = Checks.packed(100, 2);
        x.stride(2);
        x.budget(0);
        x.put(50, 1);
        x.put(60, 1);
        // Level 0: row 1 60 101(1), row 0 50. Level 1: 100 101.
        int[][] want = {{0, 1, 0, 2, 1, 3}, {0, 0, 0, 1, 1, 1}, {1, 0, 0, 1, 1, 2}};
        for (int i = 0; i < 3; i++) {
            for (int what = 0; what < 6; what++) {
                Checks.due("route(101, " + i + ", " + what + ")", want[i][what], x.route(101, i, what));
            }
        }
        Checks.due("how many", 3, x.route(101, NONE, 0));
        Checks.element("behind the last", x, y -> y.route(101, 3, 0));
        Checks.due("found in the first", 1, x.route(60, NONE, 0));
        Checks.element("none behind it", x, y -> y.route(60, 1, 0));
        Checks.due("found in the second", 2, x.route(50, NONE, 0));
        Checks.due("to none: all", 3, x.route(0, NONE, 0));
        RowStore full = Checks.made(Checks::fill);
        full.drop(199);
        Checks.due("a sign ends it", 1, full.route(199, NONE, 0));
        routeToAll();
    }

    /** The key that no act put is looked for in each shut row of each level, the younger one first. */
    private static void routeToAll() {
        RowStore x = new RowStore();
        x.budget(0);
        int[] pairs = new int[2 * 1022];
        for (int i = 0; i < 1022; i++) {
            pairs[2 * i] = i % 199;
        }
        Checks.acts(x, pairs);
        Checks.due("two rows of each level", 18, x.route(199, NONE, 0));
        for (int i = 0; i < 18; i++) {
            Checks.due("level of " + i, i / 2, x.route(199, i, 0));
            Checks.due("row of " + i, 1 - i % 2, x.route(199, i, 1));
            Checks.due("ahead of it", i, x.row(i / 2, 1 - i % 2, 5));
        }
        Checks.element("the 19th", x, y -> y.route(199, 18, 0));
    }

    private static void keysThere() {
        Checks.says("The least KEY above one (-1 on) that is THERE; NONE: none.");
        RowStore x = Checks.with(0, 100, 199);
        Checks.due("next(-1)", 0, x.next(-1));
        Checks.due("next(0)", 100, x.next(0));
        Checks.due("next(99)", 100, x.next(99));
        Checks.due("next(100)", 199, x.next(100));
        Checks.due("next(198)", 199, x.next(198));
        Checks.due("next(199)", NONE, x.next(199));
        Checks.says("The i-th KEY that is THERE, rising (0 on).");
        Checks.due("nth(0)", 0, x.nth(0));
        Checks.due("nth(2)", 199, x.nth(2));
        Checks.says("How many KEYS from one to another one (both, too) are THERE.");
        Checks.due("many(0, 0)", 1, x.many(0, 0));
        Checks.due("many(199, 199)", 1, x.many(199, 199));
        Checks.due("many(0, 199)", 3, x.many(0, 199));
        Checks.due("many(1, 198)", 1, x.many(1, 198));
        Checks.due("many(0, 99)", 1, x.many(0, 99));
        Checks.due("many(0, 100)", 2, x.many(0, 100));
        Checks.due("many(100, 99)", 0, x.many(100, 99));
        Checks.due("many(199, 0)", 0, x.many(199, 0));
        x.drop(0);
        x.drop(199);
        Checks.due("next(-1) past a sign", 100, x.next(-1));
        Checks.due("next(100) to a sign", NONE, x.next(100));
        Checks.due("nth(0) past a sign", 100, x.nth(0));
        Checks.element("nth(1)", x, y -> y.nth(1));
        x.drop(100);
        Checks.due("all are gone", NONE, x.next(-1));
        Checks.element("nth(0)", x, y -> y.nth(0));
    }

    private static void waste() {
        Checks.says("how many aren't those by which a KEY is found (what 0), how many SIGNS by which one is found have no"
                + " THING of that KEY in a SHUT ROW behind them (1), all of these but the ones that a KEY THERE is found"
                + " by (2).");
        RowStore x = Checks.packed(1, 2);
        x.budget(0);
        wastes("all are found", x, 0, 0, 0);
        x.drop(1);
        wastes("a sign over its key", x, 1, 0, 2);
        x.drop(1);
        wastes("a sign over a sign of the same level and the key", x, 2, 0, 3);
        RowStore y = Checks.packed(1, 2);
        y.budget(0);
        y.drop(9);
        wastes("a sign over nothing", y, 0, 1, 1);
        y.drop(9);
        wastes("a sign over a sign of the same level", y, 1, 0, 2);
        y.steps(1);
        wastes("one sign of the two has gone on", y, 0, 1, 1);
        RowStore z = new RowStore();
        z.budget(1);
        z.put(1, 1);
        z.put(2, 1);
        Checks.due("a thing in the open row", 1, z.row(1, 0, 1));
        wastes("which is not counted", z, 0, 0, 0);
        wastes("the first and the last key", Checks.with(0, 199), 0, 0, 0);
        RowStore ends = Checks.packed(50, 2);
        ends.budget(0);
        ends.drop(0);
        ends.drop(199);
        wastes("signs of the first and the last key", ends, 0, 2, 2);
    }

    private static void wastes(String name, RowStore x, int zero, int one, int two) {
        Checks.due(name + ": waste(0)", zero, x.waste(0));
        Checks.due(name + ": waste(1)", one, x.waste(1));
        Checks.due(name + ": waste(2)", two, x.waste(2));
    }

    private static void trace() {
        Checks.says("In how many SHUT ROWS a KEY has a THING (what 0), the LEVEL in which it is found (1; NONE: in none),"
                + " the ROW there (2; NONE).");
        RowStore x = Checks.made(Checks::fill);
        Checks.due("a key of the last acts", 1, x.trace(21, 0) > 2 ? 1 : 0);
        Checks.due("the very last act's level", 0, x.trace(21, 1));
        Checks.due("its row", 1, x.trace(21, 2));
        Checks.due("the one ahead of it", 0, x.trace(20, 2));
        RowStore y = Checks.packed(0, 129);
        Checks.due("one row", 1, y.trace(128, 0));
        Checks.due("the last level", 8, y.trace(128, 1));
        Checks.due("its first row", 0, y.trace(128, 2));
        Checks.due("no row", 0, y.trace(129, 0));
        Checks.due("no level", NONE, y.trace(129, 1));
        Checks.due("nor a row there", NONE, y.trace(129, 2));
        y.drop(128);
        Checks.due("a sign's level", 0, y.trace(128, 1));
        Checks.due("two rows", 2, y.trace(128, 0));
        for (int level = 0; level < 9; level++) {
            RowStore z = Checks.packed(0, Math.min(1 << level, 200));
            Checks.due("the first key's level", level, z.trace(0, 1));
            Checks.due("its row", 0, z.trace(0, 2));
        }
    }

    private static void levels() {
        Checks.says("Of a LEVEL: 0 SHUT ROWS, 1 1 if it MERGES, 2 THINGS in SHUT ROWS, 3 how often it was through,"
                + " 4 THINGS that came into OPEN ROWS by its STEPS ever, 5 THINGS left to be gone through (0),"
                + " 6 1 if it MERGES and is BARE, 7 the LEAD (NONE), 8 MARKS in it.");
        RowStore x = new RowStore();
        x.budget(1);
        x.put(1, 1);
        x.put(2, 2);
        levelIs(x, 0, 2, 1, 2, 0, 1, 1, 1, 1, 0);
        levelIs(x, 1, 0, 0, 0, 0, 0, 0, 0, NONE, 0);
        x.steps(1);
        levelIs(x, 0, 0, 0, 0, 1, 2, 0, 0, NONE, 0);
        levelIs(x, 1, 1, 0, 2, 0, 0, 0, 0, 0, 0);
        RowStore full = Checks.made(Checks::fill);
        Checks.due("two rows of all keys", 400, full.level(8, 2));
        Checks.due("level 8 was not through", 0, full.level(8, 3));
        Checks.due("level 7 was twice", 2, full.level(7, 3));
        Checks.due("marks of two rows of 200", 100, full.level(7, 8));
        Checks.due("no level merges but the last", 0, full.level(7, 1));
    }

    private static void levelIs(RowStore x, int level, int... want) {
        for (int what = 0; what < want.length; what++) {
            Checks.due("level(" + level + ", " + what + ")", want[what], x.level(level, what));
        }
    }

    private static void rows() {
        Checks.says("Of a ROW: 0 0 FREE, 1 OPEN, 2 SHUT, 1 THINGS, 2 ENTRIES (0, if it isn't SHUT), 3 MARKS, 4 SIGNS,"
                + " 5 how many SHUT ROWS come ahead of it as one goes to FIND a KEY (NONE: it isn't SHUT).");
        RowStore x = Checks.packed(100, 2);
        x.stride(2);
        x.budget(1);
        x.drop(4);
        x.drop(5);
        rowIs(x, 0, 0, 2, 1, 1, 0, 1, 1);
        rowIs(x, 0, 1, 2, 1, 2, 1, 1, 0);
        rowIs(x, 1, 0, 2, 2, 2, 0, 0, 2);
        rowIs(x, 1, 1, 1, 1, 0, 0, 1, NONE);
        rowIs(x, 2, 0, 0, 0, 0, 0, 0, NONE);
        x.steps(1);
        rowIs(x, 0, 1, 0, 0, 0, 0, 0, NONE);
        rowIs(x, 1, 1, 2, 2, 2, 0, 2, 0);
        RowStore gone = new RowStore();
        gone.budget(0);
        Checks.putAll(gone, 1, 2);
        rowIs(gone, 0, 0, 2, 1, 1, 0, 0, 1);
        gone.steps(2);
        rowIs(gone, 0, 0, 0, 0, 0, 0, 0, NONE);
        RowStore full = Checks.made(Checks::fill);
        Checks.due("the first to go to", 0, full.row(0, 1, 5));
        Checks.due("the last to go to", 17, full.row(8, 0, 5));
        Checks.due("the open one", NONE, full.row(8, 2, 5));
    }

    private static void rowIs(RowStore x, int level, int row, int... want) {
        for (int what = 0; what < want.length; what++) {
            Checks.due("row(" + level + ", " + row + ", " + what + ")", want[what], x.row(level, row, what));
        }
    }

    private static void things() {
        Checks.says("Of the i-th THING (0 on) of a ROW: its KEY (what 0), VALUE (1; NONE: a SIGN).");
        RowStore x = Checks.packed(100, 2);
        x.budget(1);
        x.put(4, 999);
        x.drop(5);
        Checks.due("a sign's key", 5, x.thing(0, 1, 0, 0));
        Checks.due("a sign's value", NONE, x.thing(0, 1, 0, 1));
        Checks.due("of a shut row that has gone on", 999, x.thing(0, 0, 0, 1));
        Checks.due("of an open row", 999, x.thing(1, 1, 0, 1));
        Checks.element("not come yet", x, y -> y.thing(1, 1, 1, 0));
        x.steps(1);
        Checks.due("come", 5, x.thing(1, 1, 1, 0));
        Checks.element("of a row that is free again", x, y -> y.thing(0, 0, 0, 0));
        Checks.says("Of the i-th ENTRY (0 on) of a SHUT ROW: its KEY (what 0), 0 a VALUE, 1 a SIGN, 2 a MARK (1), the"
                + " VALUE, or of which ROW of the next LEVEL it is (2; NONE of a SIGN), its PLACE (3; NONE, if it is no"
                + " MARK).");
        x.stride(2);
        x.put(0, 0);
        // Level 0: 0, then the marks of level 1's rows: 4 5 and 100 101.
        int[][] want = {{0, 0, 0, NONE}, {5, 2, 1, 1}, {101, 2, 0, 1}};
        for (int i = 0; i < 3; i++) {
            for (int what = 0; what < 4; what++) {
                Checks.due("entry(0, 0, " + i + ", " + what + ")", want[i][what], x.entry(0, 0, i, what));
            }
        }
        Checks.due("a sign is 1", 1, x.entry(1, 1, 1, 1));
        Checks.due("with no value", NONE, x.entry(1, 1, 1, 2));
        Checks.due("and no place", NONE, x.entry(1, 1, 1, 3));
    }

    private static void counts() {
        Checks.says("3 the most STEPS of one ACT, 4 THINGS dropped for younger ones, 5 SIGNS dropped by BARE LEVELS");
        RowStore x = new RowStore();
        Checks.putAll(x, 1, 2, 3, 4, 5);
        Checks.due("the most, not the latest", 6, x.count(3));
        x.budget(0);
        x.steps(1000);
        Checks.due("steps alone are no act's", 6, x.count(3));
        Checks.says("9 the greatest LEVEL that has a SHUT ROW (NONE)");
        Checks.due("the first level", 0, Checks.with(1).count(9));
        Checks.due("the last level", 8, Checks.packed(0, 129).count(9));
        RowStore open = new RowStore();
        open.budget(1);
        Checks.putAll(open, 1, 2);
        Checks.due("an open row is none", 0, open.count(9));
        Checks.says("12 LEVELS that MERGE, 13 bytes of the tape, 14 the most LOOKS that any KEY takes by MARKS, 15 PLAIN.");
        RowStore y = Checks.packed(100, 2);
        y.stride(2);
        y.put(50, 1);
        // Level 0: 50 101(1), level 1: 100 101: 3 and 2 by marks, 2 and 3 plain.
        Checks.due("by marks", 5, y.count(14));
        Checks.due("plain", 5, y.count(15));
        RowStore one = Checks.with(199);
        Checks.due("the last key's", 2, one.count(14));
        Checks.due("the last key's, plain", 2, one.count(15));
        Checks.says("the most LOOKS that any KEY takes");
        // Key 0 falls at an entry of both rows: 2 and 3. Others that do are found in the first, or fall in it behind all.
        RowStore first = new RowStore();
        first.put(0, 1);
        first.put(199, 1);
        first.put(1, 1);
        Checks.due("the first key alone has the most", 5, first.count(14));
        Checks.due("plain", 5, first.count(15));
        Checks.due("the second has less", 2, first.looks(1, false));
        Checks.due("the third has less", 4, first.looks(2, false));
        lastKeyMost();
        RowStore zero = Checks.packed(0, 2);
        zero.put(0, 1);
        Checks.due("shut rows", 2, zero.count(7));
        Checks.due("things in them", 3, zero.count(8));
        Checks.due("keys", 2, zero.count(6));
    }

    /** The younger row of level 8 has all keys but the last one, which is found in the elder row alone. */
    private static void lastKeyMost() {
        RowStore x = Checks.packed(0, 200);
        x.budget(40);
        int[] pairs = new int[512];
        for (int i = 0; i < 256; i++) {
            pairs[2 * i] = i % 199;
        }
        Checks.acts(x, pairs);
        x.steps(214 + 199);
        Checks.due("the younger row's things", 199, x.row(8, 1, 1));
        Checks.due("it is shut, and the elder one, too", 2, x.level(8, 0));
        int others = 0;
        for (int key = 0; key < 199; key++) {
            others = Math.max(others, x.looks(key, true));
        }
        int last = x.looks(199, true);
        Checks.due("the last key has more than the others", 1, last > others ? 1 : 0);
        Checks.due("plain, its own", last, x.count(15));
        Checks.due("by marks, its own", x.looks(199, false), x.count(14));
    }

    private static void ahead() {
        Checks.says("AHEAD by n: STEPS of all of them (what 0), FORCED ones (1), the most STEPS of one (2; 0 for none),"
                + " SHUT ROWS then (3), KEYS that are THERE then (4).");
        RowStore x = new RowStore();
        Checks.putAll(x, 1, 2, 3, 4);
        int[] now = {0, 0, 0, 1, 4};
        int[] one = {0, 0, 0, 2, 5};
        int[] four = {8, 0, 6, 2, 8};
        for (int what = 0; what < 5; what++) {
            Checks.due("ahead(0, " + what + ")", now[what], x.ahead(0, what));
            Checks.due("ahead(1, " + what + ")", one[what], x.ahead(1, what));
            Checks.due("ahead(4, " + what + ")", four[what], x.ahead(4, what));
        }
        Checks.due("what has been is not counted", 8, x.count(1));
        RowStore full = Checks.made(Checks::fill);
        int[] next = {654, 654, 654, 10, 200};
        for (int what = 0; what < 5; what++) {
            Checks.due("of a full store, ahead(1, " + what + ")", next[what], full.ahead(1, what));
        }
        Checks.due("of a full store, none", 18, full.ahead(0, 3));
        RowStore y = new RowStore();
        y.budget(40);
        int steps = 0;
        int most = 0;
        for (int i = 0; i < 64; i++) {
            int took = y.put((37 * i + 11) % 200, 0);
            steps += took;
            most = Math.max(most, took);
        }
        RowStore z = new RowStore();
        z.budget(40);
        int[] all = {steps, y.count(2), most, y.count(7), 64};
        for (int what = 0; what < 5; what++) {
            Checks.due("as if they came: ahead(64, " + what + ")", all[what], z.ahead(64, what));
        }
        Checks.element("another what comes first", z, s -> s.ahead(65, 5));
        Checks.argument("then n", z, s -> s.ahead(65, 4));
    }

    private static void due() {
        Checks.says("Behind how many ACTS (1 to 64), as AHEAD, a LEVEL is through first; NONE: behind none.");
        RowStore x = new RowStore();
        Checks.due("two acts", 2, x.due(0));
        x.put(1, 1);
        Checks.due("one act is the least", 1, x.due(0));
        x.put(2, 1);
        Checks.due("it was through, and will be again", 2, x.due(0));
        Checks.due("the last level", NONE, x.due(8));
        // By 40 steps an act level 5 is through at the 67th act.
        RowStore y = new RowStore();
        y.budget(40);
        Checks.putAll(y, 111, 148);
        Checks.due("65 acts are too many", NONE, y.due(5));
        Checks.putAll(y, 185);
        Checks.due("64 acts are the most", 64, y.due(5));
        Checks.due("a full store's last level, as it is forced", 1, Checks.made(Checks::fill).due(8));
        RowStore never = new RowStore();
        never.budget(0);
        Checks.due("forced at the third act", 3, never.due(0));
    }

    private static void pack() {
        Checks.says("All KEYS that are THERE become THINGS of ROW 0 of the least LEVEL k for which 2 to the k is as many"
                + " at least (SHUT then)");
        int[] many = {1, 2, 3, 4, 5, 8, 9, 16, 17, 32, 33, 64, 65, 128, 129, 200};
        int[] level = {0, 1, 2, 2, 3, 3, 4, 4, 5, 5, 6, 6, 7, 7, 8, 8};
        for (int i = 0; i < many.length; i++) {
            RowStore x = Checks.packed(200 - many[i], many[i]);
            Checks.due("rows of " + many[i], 1, x.count(7));
            Checks.due("level of " + many[i], level[i], x.count(9));
            Checks.due("row 0", 2, x.row(level[i], 0, 0));
            Checks.due("things", many[i], x.row(level[i], 0, 1));
            Checks.due("the last one", 199, x.thing(level[i], 0, many[i] - 1, 0));
            Checks.due("again", many[i], x.pack());
        }
        Checks.says("all other ROWS are FREE, no LEVEL MERGES: how many THINGS (0: all ROWS are FREE). It is no ACT.");
        RowStore full = Checks.made(Checks::fill);
        full.drop(0);
        int acts = full.count(0);
        int steps = full.count(1);
        Checks.due("all keys but one", 199, full.pack());
        Checks.due("one row", 1, full.count(7));
        Checks.due("no open row", 0, full.row(8, 2, 0) + full.row(8, 1, 0));
        Checks.due("no level merges", 0, full.count(12));
        Checks.due("no sign", 0, full.row(8, 0, 4));
        Checks.due("no act", acts, full.count(0));
        Checks.due("no step", steps, full.count(1));
        RowStore signs = Checks.with(1, 2, 3);
        signs.drop(1);
        signs.drop(2);
        signs.drop(3);
        Checks.due("nothing is there", 0, signs.pack());
        for (int k = 0; k < 9; k++) {
            Checks.due("all rows are free", 0, signs.row(k, 0, 0) + signs.row(k, 1, 0));
        }
        RowStore one = Checks.packed(9, 1);
        one.put(8, 1);
        Checks.due("the next act merges with it", 2, one.toll(0));
        Checks.keys("both", one, 1, 0, 8, 9);
    }

    private static void views() {
        Checks.says("A VIEW is taken (in place of another one): SHUT ROWS in it.");
        RowStore x = new RowStore();
        Checks.due("of an empty store", 0, x.view(0));
        Checks.due("it is taken all the same", 0, x.against(0, 0));
        x.put(1, 10);
        Checks.due("another one", 1, x.view(1));
        Checks.due("in place of the first", 1, x.view(0));
        Checks.due("seen in it", 10, x.seen(0, 1));
        Checks.due("of a full store", 18, Checks.made(Checks::fill).view(2));
        RowStore open = new RowStore();
        open.budget(1);
        Checks.putAll(open, 1, 2);
        Checks.due("without the open row", 2, open.view(0));
        Checks.says("A VIEW goes: how many SHUT ROWS it had. NONE: no such one, it isn't taken.");
        Checks.due("it has two", 2, open.leave(0));
        Checks.due("it went", NONE, open.leave(0));
        Checks.element("seen", open, y -> y.seen(0, 1));
        Checks.element("against", open, y -> y.against(0, 0));
        Checks.element("between", open, y -> y.between(0, 0));
        Checks.due("restore", NONE, open.restore(0));
        RowStore nothing = new RowStore();
        nothing.view(2);
        Checks.due("it had none", 0, nothing.leave(2));
        RowStore less = new RowStore();
        less.budget(0);
        Checks.putAll(less, 1, 2);
        Checks.due("two rows of level 0", 2, less.view(0));
        less.steps(2);
        Checks.due("one of level 1, in place of both", 1, less.view(0));
        Checks.due("shut yet", 1, less.against(0, 3));
        Checks.due("restored", 1, less.restore(0));
        Checks.due("the first rows stay free", 0, less.row(0, 0, 0) + less.row(0, 1, 0));
        Checks.due("it went, too", NONE, nothing.leave(2));
        Checks.due("taken again", 0, nothing.view(2));
        Checks.due("and gone again", 0, nothing.leave(2));
    }

    private static void seen() {
        Checks.says("The VALUE of a KEY in a VIEW; NONE: it isn't THERE.");
        RowStore x = new RowStore();
        x.put(0, 0);
        x.put(199, 999);
        x.put(5, 5);
        x.drop(5);
        x.view(2);
        x.pack();
        Checks.round(x, 0, 200, 1);
        Checks.due("the first key", 0, x.seen(2, 0));
        Checks.due("the last key", 999, x.seen(2, 199));
        Checks.due("a sign", NONE, x.seen(2, 5));
        Checks.due("no thing", NONE, x.seen(2, 6));
        Checks.says("VIEWS 0 to 2 each keep all SHUT ROWS as they were as the VIEW was taken.");
        RowStore y = Checks.with(1);
        y.view(0);
        y.put(1, 11);
        y.view(1);
        y.put(1, 12);
        y.view(2);
        y.drop(1);
        Checks.due("the first view's", 10, y.seen(0, 1));
        Checks.due("the second view's", 11, y.seen(1, 1));
        Checks.due("the third view's", 12, y.seen(2, 1));
    }

    private static void against() {
        Checks.says("KEYS that are THERE in it (what 0), that are THERE in it and not now, or with another VALUE (1),"
                + " that are THERE now and not in it (2), its SHUT ROWS that are SHUT yet (3).");
        RowStore x = Checks.with(1, 2, 3);
        x.view(0);
        againstIs(x, 3, 0, 0, 2);
        x.pack();
        againstIs(x, 3, 0, 0, 0);
        x.put(1, 10);
        againstIs(x, 3, 0, 0, 0);
        x.put(1, 11);
        againstIs(x, 3, 1, 0, 0);
        x.drop(2);
        x.put(9, 0);
        againstIs(x, 3, 2, 1, 0);
        x.restore(0);
        againstIs(x, 3, 0, 0, 2);
        RowStore y = new RowStore();
        y.view(0);
        againstIs(y, 0, 0, 0, 0);
        y.put(1, 0);
        againstIs(y, 0, 0, 1, 0);
        RowStore z = Checks.with(1);
        z.view(0);
        z.put(2, 0);
        z.put(3, 0);
        againstIs(z, 1, 0, 2, 0);
        Checks.due("another row is in its place", 2, z.row(0, 0, 0));
        Checks.says("KEYS that are THERE in one of two VIEWS alone, or with unlike VALUES in both.");
        z.view(1);
        Checks.due("a view and itself", 0, z.between(1, 1));
        Checks.due("two in one alone", 2, z.between(0, 1));
        Checks.due("turned round", 2, z.between(1, 0));
        z.put(1, 0);
        z.drop(2);
        z.view(2);
        Checks.due("unlike values, and one alone", 2, z.between(1, 2));
        Checks.due("a value of 0 is there", 2, z.between(0, 2));
        againstEnds();
    }

    private static void againstEnds() {
        RowStore x = new RowStore();
        x.view(1);
        Checks.putAll(x, 0, 199);
        x.view(0);
        againstIs(x, 2, 0, 0, 1);
        Checks.due("the first and the last key are new", 2, x.against(1, 2));
        Checks.due("in one alone", 2, x.between(0, 1));
        Checks.due("in the other alone", 2, x.between(1, 0));
        x.drop(0);
        x.drop(199);
        againstIs(x, 2, 2, 0, 0);
    }

    private static void againstIs(RowStore x, int... want) {
        for (int what = 0; what < 4; what++) {
            Checks.due("against(0, " + what + ")", want[what], x.against(0, what));
        }
    }

    private static void restore() {
        Checks.says("All becomes as in a VIEW: its SHUT ROWS where they were, all others FREE, no LEVEL MERGES"
                + " (then LEVELS are asked whether they BEGIN): SHUT ROWS.");
        RowStore x = Checks.made(Checks::jam);
        Checks.due("the view", 4, x.view(0));
        x.steps(3);
        Checks.due("under way", 1, x.level(1, 5));
        Checks.due("restored", 4, x.restore(0));
        Checks.due("level 1 begins anew", 4, x.level(1, 5));
        Checks.due("its open row is empty", 0, x.row(2, 0, 1));
        Checks.due("no row is free for level 0", 0, x.level(0, 1));
        x.steps(1000);
        Checks.round(x, 50, 100, 3);
        int steps = x.count(1);
        int toll = x.toll(2);
        Checks.due("once more", 4, x.restore(0));
        Checks.due("rows", 4, x.count(7));
        Checks.keys("where they were", x, 1, 1, 3, 4);
        Checks.due("acts ever", 106, x.count(0));
        Checks.due("steps ever", steps, x.count(1));
        Checks.due("a toll", toll, x.toll(2));
        Checks.due("budget", 0, x.count(10));
        bareAnew();
        ofNothing();
    }

    /** What lay behind as the view is restored is free first, so it doesn't keep a level from being bare. */
    private static void bareAnew() {
        RowStore x = new RowStore();
        x.budget(0);
        x.put(1, 1);
        x.drop(2);
        x.view(0);
        x.pack();
        Checks.putAll(x, 3, 4, 5, 6, 7);
        x.pack();
        Checks.due("six keys in level 3", 3, x.count(9));
        Checks.due("restored", 2, x.restore(0));
        Checks.due("level 0 begins", 1, x.level(0, 1));
        Checks.due("and is bare", 1, x.level(0, 6));
        x.steps(2);
        Checks.due("its sign is gone", 1, x.count(5));
        Checks.keys("the key", x, 1, 0, 1);
        x.drop(1);
        Checks.due("what comes later is younger", NONE, x.find(1));
    }

    private static void ofNothing() {
        RowStore x = new RowStore();
        x.view(1);
        x.budget(0);
        Checks.putAll(x, 1, 2, 3, 4, 5);
        Checks.due("none is shut", 0, x.restore(1));
        Checks.due("none merges", 0, x.count(12));
        for (int level = 0; level < 9; level++) {
            Checks.due("all are free", 0, x.row(level, 0, 0) + x.row(level, 1, 0));
        }
        Checks.due("no key is there", 0, x.count(6));
        Checks.due("level 0 is free, so none is forced", 0, x.put(9, 1));
        Checks.due("the view stays", 0, x.leave(1));
        Checks.due("till it goes", NONE, x.restore(1));
    }

    public static void main(String[] args) {
        life();
        empty();
        feed();
        batch();
        steps();
        settings();
        looks();
        falls();
        route();
        keysThere();
        waste();
        trace();
        levels();
        rows();
        things();
        counts();
        ahead();
        due();
        pack();
        views();
        seen();
        against();
        restore();
        Checks.end();
    }
}
