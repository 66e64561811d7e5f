/** The edges that the document's 'Terms' name, each sentence with a test of its own. */
public final class TermsEdgeTest {
    private static final int NONE = RowStore.NONE;

    private static void keysAndValues() {
        Checks.says("KEYS 0 to 199, VALUES 0 to 999.");
        RowStore x = new RowStore();
        Checks.due("put(0, 0)", 0, x.put(0, 0));
        Checks.due("a value of 0 is one", 0, x.find(0));
        Checks.due("put(199, 999)", 2, x.put(199, 999));
        Checks.due("find(199)", 999, x.find(199));
        Checks.due("a value of 255 is one, by put", 0, x.put(5, 255));
        Checks.due("find(5)", 255, x.find(5));
        Checks.due("both ends are there", 3, x.many(0, 199));
    }

    private static void free() {
        Checks.says("A ROW is FREE (at first), OPEN or SHUT.");
        RowStore x = new RowStore();
        for (int level = 0; level < 9; level++) {
            for (int row = 0; row < Checks.rowsOf(level); row++) {
                Checks.due("row(" + level + ", " + row + ", 0)", 0, x.row(level, row, 0));
                Checks.due("row(" + level + ", " + row + ", 1)", 0, x.row(level, row, 1));
            }
        }
        x.budget(0);
        Checks.putAll(x, 1, 2);
        Checks.due("shut", 2, x.row(0, 0, 0));
        Checks.due("open", 1, x.row(1, 0, 0));
        Checks.due("free", 0, x.row(1, 1, 0));
    }

    private static void rising() {
        Checks.says("THINGS of a ROW have unlike KEYS, rising.");
        RowStore x = new RowStore();
        for (int i = 0; i < 60; i++) {
            x.put(i * 151 % 20, i);
        }
        for (int level = 0; level < 9; level++) {
            for (int row = 0; row < Checks.rowsOf(level); row++) {
                int[] keys = Checks.keysOf(x, level, row);
                for (int i = 1; i < keys.length; i++) {
                    Checks.due("key " + i + " is above the one ahead", 1, keys[i] > keys[i - 1] ? 1 : 0);
                }
            }
        }
    }

    private static void younger() {
        Checks.says("Of SHUT ROWS of one LEVEL that is younger which was SHUT later.");
        RowStore x = new RowStore();
        x.budget(0);
        x.put(7, 1);
        x.put(7, 2);
        Checks.due("the second row is younger", 1, x.level(0, 7));
        Checks.due("its value", 2, x.find(7));
    }

    /** Rows of level 8 are used in turn, so there the younger of two may be the one of the lower number. */
    private static void thirdRow() {
        Checks.says("LEVEL 8 into its own third one");
        RowStore x = Checks.packed(0, 200);
        x.budget(40);
        fillLevel7(x, 1);
        Checks.due("it has a row of its own open", 1, x.row(8, 1, 0));
        x.steps(199);
        Checks.due("it is open till the last step", 1, x.row(8, 1, 0));
        x.steps(1);
        Checks.due("level 8 has two rows", 2, x.level(8, 0));
        Checks.due("it begins at once", 1, x.level(8, 1));
        Checks.due("its third row is open", 1, x.row(8, 2, 0));
        Checks.due("level 8 is bare always", 1, x.level(8, 6));
        Checks.due("steps of 200 keys, each in both", 200, x.steps(1000));
        Checks.due("row 0 is free", 0, x.row(8, 0, 0));
        Checks.due("row 1 is free", 0, x.row(8, 1, 0));
        Checks.due("row 2 is shut", 2, x.row(8, 2, 0));
        Checks.due("all keys in it", 200, x.row(8, 2, 1));
        Checks.due("the younger one's things", 1, x.thing(8, 2, 199, 1));
        Checks.due("level 8 came into its own row", 200, x.level(8, 4));
        Checks.due("through once", 1, x.level(8, 3));
        fillLevel7(x, 2);
        x.steps(200);
        Checks.due("the first free row again", 2, x.row(8, 0, 0));
        Checks.due("the younger one is row 0 now", 0, x.level(8, 7));
        Checks.due("it comes first", 0, x.row(8, 0, 5));
        Checks.due("the elder one comes second", 1, x.row(8, 2, 5));
        Checks.due("what is found is in it", 0, x.trace(5, 2));
        Checks.due("with its value", 2, x.find(5));
        Checks.due("row 1 is the third one now", 1, x.row(8, 1, 0));
        x.steps(1000);
        Checks.due("and is shut", 2, x.row(8, 1, 0));
        Checks.due("a row of the last level has no marks", 0, x.level(8, 8));
    }

    /**
     * By a budget of 40 the 256th act finds all merged but its own: 2 and 4 .. and 128 steps, less 40, are left.
     * Then level 7 has two rows of 128 things, of 200 keys in all.
     */
    private static void fillLevel7(RowStore x, int value) {
        Checks.round(x, 0, 256, value);
        x.steps(214);
        Checks.due("things left in level 7", 256, x.level(7, 5));
    }

    private static void begins() {
        Checks.says("It BEGINS to, where it has two SHUT ROWS and doesn't MERGE, and there is a FREE ROW for it:"
                + " the first one is OPEN (and empty) then.");
        RowStore x = new RowStore();
        x.budget(0);
        x.put(1, 1);
        Checks.due("one row is too few", 0, x.level(0, 1));
        x.put(2, 2);
        Checks.due("two rows are enough", 1, x.level(0, 1));
        Checks.due("the first one is open", 1, x.row(1, 0, 0));
        Checks.due("and empty", 0, x.row(1, 0, 1));
        Checks.due("the second one is free", 0, x.row(1, 1, 0));
        Checks.putAll(x, 3, 4);
        Checks.due("the first one is shut, so the second is open", 1, x.row(1, 1, 0));
        RowStore y = Checks.made(Checks::jam);
        Checks.due("two shut rows", 2, y.level(0, 0));
        Checks.due("but none is free for them", 0, y.level(0, 1));
        Checks.due("things left where it doesn't merge", 0, y.level(0, 5));
        Checks.due("level 1 merges", 1, y.level(1, 1));
        y.steps(3);
        Checks.due("not yet", 0, y.level(0, 1));
        y.steps(1);
        Checks.due("whenever a level is through", 1, y.level(0, 1));
        Checks.due("into the first row", 1, y.row(1, 0, 0));
    }

    private static void bare() {
        Checks.says("It is BARE, if no ROW of a LEVEL behind k is SHUT as it BEGINS.");
        RowStore x = new RowStore();
        x.budget(0);
        x.put(1, 1);
        Checks.due("a level that doesn't merge", 0, x.level(0, 6));
        x.put(2, 2);
        Checks.due("its own rows are not behind it", 1, x.level(0, 6));
        Checks.putAll(x, 3, 4);
        Checks.due("a row of the next level is", 0, x.level(0, 6));
        x.steps(2);
        Checks.due("level 1 has none behind it", 1, x.level(1, 6));
        RowStore y = Checks.packed(0, 129);
        Checks.putAll(y, 150);
        y.budget(0);
        Checks.putAll(y, 151);
        Checks.due("a row of the last level is behind, too", 0, y.level(0, 6));
        y.pack();
        Checks.due("no level merges", 0, y.level(0, 6));
        RowStore full = Checks.made(Checks::fill);
        Checks.due("level 8 has none behind it", 1, full.level(8, 6));
        signsGoDown();
    }

    /** A sign stays as long as something lies behind its level, and goes as nothing does. */
    private static void signsGoDown() {
        Checks.says("(a SIGN is dropped instead, if the LEVEL is BARE)");
        RowStore x = Checks.with(1, 2);
        x.drop(1);
        x.drop(3);
        Checks.due("level 0 kept none for itself", 0, x.row(0, 0, 0));
        Checks.due("level 1 was bare: both signs are gone there", 2, x.count(5));
        Checks.keys("what is left", x, 2, 0, 2);
        Checks.due("signs came into level 1, one key into level 2", 1, x.level(1, 4));
        Checks.due("for a younger one", 1, x.count(4));
        x.drop(9);
        x.drop(9);
        Checks.due("one sign for another", 2, x.count(4));
        Checks.due("it stays over a row", 1, x.row(1, 0, 4));
    }

    private static void from8Back() {
        Checks.says("LEVELS are asked whether they BEGIN from 8 back to 0");
        RowStore x = Checks.made(Checks::fill);
        Checks.due("shut rows kept", 18, x.view(0));
        x.steps(5);
        Checks.due("restored", 18, x.restore(0));
        Checks.due("level 8 is asked first", 1, x.level(8, 1));
        Checks.due("so level 7 has no row", 0, x.level(7, 1));
        Checks.due("nor has another", 1, x.count(12));
        Checks.due("it begins anew", 400, x.level(8, 5));
    }

    private static void step() {
        Checks.says("if both have it, the younger one's THING goes on and the elder one's is dropped");
        RowStore x = new RowStore();
        x.budget(0);
        x.put(1, 5);
        x.put(1, 6);
        Checks.due("both are left", 2, x.level(0, 5));
        Checks.due("one step for both", 1, x.steps(9));
        Checks.due("the younger one's", 6, x.thing(1, 0, 0, 1));
        Checks.due("one thing", 1, x.row(1, 0, 1));
        Checks.due("dropped", 1, x.count(4));
        Checks.due("came", 1, x.level(0, 4));
        Checks.says("A STEP is one of the lowest LEVEL that MERGES: the least KEY that is left in both its ROWS");
        RowStore y = new RowStore();
        y.budget(0);
        y.put(9, 1);
        y.put(4, 2);
        y.steps(1);
        Checks.keys("the least key first", y, 1, 0, 4);
        Checks.due("shut rows keep all", 1, y.row(0, 1, 1));
        Checks.due("left", 1, y.level(0, 5));
        RowStore z = Checks.with(0, 1, 2, 3, 4, 5, 6, 7);
        z.budget(0);
        Checks.putAll(z, 8, 9);
        Checks.due("levels 0 and 2 merge", 2, z.count(12));
        z.steps(1);
        Checks.due("left in level 0", 1, z.level(0, 5));
        Checks.due("left in level 2", 8, z.level(2, 5));
        z.steps(2);
        Checks.due("level 0 is through", 5, z.level(0, 3));
        Checks.due("then it is level 2's turn", 7, z.level(2, 5));
    }

    private static void through() {
        Checks.says("If none is left then, the LEVEL is through: its ROWS are FREE, the OPEN one is SHUT"
                + " (FREE, if it is empty).");
        RowStore x = new RowStore();
        x.budget(1);
        Checks.putAll(x, 1, 2);
        Checks.due("one is left", 1, x.level(0, 5));
        Checks.due("its rows are shut", 2, x.level(0, 0));
        Checks.due("not through", 0, x.level(0, 3));
        x.steps(1);
        Checks.due("through", 1, x.level(0, 3));
        Checks.due("row 0 is free", 0, x.row(0, 0, 0));
        Checks.due("row 1 is free", 0, x.row(0, 1, 0));
        Checks.due("and has nothing", 0, x.row(0, 1, 1));
        Checks.due("the open one is shut", 2, x.row(1, 0, 0));
        RowStore y = new RowStore();
        y.drop(1);
        Checks.due("two signs, two steps", 2, y.drop(2));
        Checks.due("an empty one is free", 0, y.row(1, 0, 0));
        Checks.due("through all the same", 1, y.level(0, 3));
        Checks.due("nothing came", 0, y.level(0, 4));
        Checks.due("no row is shut", 0, y.count(7));
        Checks.due("in no level", NONE, y.count(9));
        y.drop(3);
        Checks.due("one sign over another: one step", 1, y.drop(3));
        Checks.due("through again", 2, y.level(0, 3));
        Checks.due("signs gone", 3, y.count(5));
        Checks.due("for a younger one", 1, y.count(4));
    }

    private static void forced() {
        Checks.says("first, as long as LEVEL 0 has no FREE ROW, a STEP is taken (FORCED)");
        RowStore x = new RowStore();
        x.budget(0);
        Checks.due("two rows are free", 0, x.put(1, 1));
        Checks.due("one row is free", 0, x.put(2, 2));
        Checks.due("none is free", 2, x.put(3, 3));
        Checks.due("forced", 2, x.count(2));
        RowStore y = Checks.made(Checks::jam);
        Checks.due("steps of level 1, then those of level 0", 6, y.put(7, 7));
        Checks.due("forced in all", 10, y.count(2));
        Checks.due("the most of one act", 6, y.count(3));
        RowStore full = Checks.made(Checks::fill);
        Checks.due("all levels are full: 200 and 200 and 128 and 64 .. and 2", 654, full.put(5, 5));
        Checks.due("toll(0)", 654, full.toll(0));
        Checks.due("the most", 654, full.count(3));
        Checks.due("what came is there", 5, full.find(5));
        RowStore more = Checks.made(Checks::fill);
        more.budget(40);
        Checks.due("those of the budget come behind", 694, more.put(5, 5));
        Checks.due("level 8 has taken them", 320, more.level(8, 5));
    }

    private static void firstFreeRow() {
        Checks.says("second, the THING is all of the first FREE ROW of LEVEL 0, which is SHUT");
        RowStore x = new RowStore();
        x.put(9, 90);
        Checks.keys("row 0", x, 0, 0, 9);
        Checks.due("shut", 2, x.row(0, 0, 0));
        x.budget(0);
        x.put(9, 91);
        Checks.keys("row 1", x, 0, 1, 9);
        RowStore y = Checks.packed(9, 1);
        y.budget(0);
        y.put(3, 1);
        Checks.keys("behind a pack to row 0", y, 0, 1, 3);
    }

    private static void budget() {
        Checks.says("third, as many STEPS as BUDGET tells (0 to 40; 6 at first), or till none MERGES.");
        Checks.due("6 at first", 6, new RowStore().count(10));
        RowStore x = new RowStore();
        int[] steps = {0, 2, 0, 6, 0, 2, 0, 6, 6, 4};
        for (int i = 0; i < steps.length; i++) {
            Checks.due("put " + i, steps[i], x.put(i, 1));
        }
        RowStore least = new RowStore();
        least.budget(0);
        for (int i = 0; i < 63; i++) {
            least.put(i, 1);
        }
        least.budget(40);
        Checks.due("40 of more", 40, least.put(63, 1));
        RowStore few = new RowStore();
        few.budget(40);
        few.put(1, 1);
        Checks.due("till none merges", 2, few.put(2, 2));
        Checks.due("none merges", 0, few.count(12));
        RowStore exact = new RowStore();
        exact.budget(1);
        exact.put(1, 1);
        Checks.due("one of two", 1, exact.put(2, 2));
        Checks.due("then the one that is left, by the next act's budget", 1, exact.put(3, 3));
        Checks.due("forced, as no row was free", 1, exact.count(2));
    }

    private static void signComes() {
        Checks.says("drops a KEY (a SIGN comes, also if there is no such KEY)");
        RowStore x = new RowStore();
        x.drop(0);
        Checks.due("the sign's key", 0, x.thing(0, 0, 0, 0));
        Checks.due("its value", NONE, x.thing(0, 0, 0, 1));
        Checks.due("a sign", 1, x.row(0, 0, 4));
        Checks.due("an act", 1, x.count(0));
        Checks.due("not there", NONE, x.find(0));
    }

    private static void there() {
        Checks.says("A KEY is THERE, if the THING of it that is in the lowest LEVEL, there in the youngest ROW"
                + " (SHUT ones alone), has a VALUE: its VALUE.");
        RowStore x = Checks.packed(5, 2);
        x.budget(0);
        x.put(5, 51);
        Checks.due("the lowest level's", 51, x.find(5));
        x.put(5, 52);
        Checks.due("the youngest row's", 52, x.find(5));
        x.steps(1);
        Checks.due("it is through", 52, x.find(5));
        x.drop(5);
        Checks.due("a sign has none", NONE, x.find(5));
        Checks.due("the key behind is", 7, x.find(6));
        RowStore y = new RowStore();
        y.budget(0);
        Checks.putAll(y, 1, 2);
        y.steps(1);
        Checks.due("the open row has it, too", 1, y.row(1, 0, 1));
        Checks.due("but shut ones alone are asked", 1, y.trace(1, 0));
        Checks.due("in level 0", 0, y.trace(1, 1));
        Checks.due("no row behind", 0, y.count(9));
    }

    private static void strides() {
        Checks.says("for each STRIDE-th of that ROW's ENTRIES (STRIDE 2 to 8; 4 at first; PLACES STRIDE less 1,"
                + " twice STRIDE less 1 ..) its KEY and its PLACE.");
        Checks.due("4 at first", 4, new RowStore().count(11));
        for (int things = 5; things <= 8; things++) {
            RowStore x = Checks.packed(100, things);
            Checks.putAll(x, 1, 2, 3, 4);
            Checks.due("four things ahead of them", 4, x.row(2, 0, 1));
            for (int stride = 2; stride <= 8; stride++) {
                x.stride(stride);
                String name = things + " entries, stride " + stride;
                Checks.due(name, things / stride, x.level(2, 8));
                Checks.due(name + ", entries", 4 + things / stride, x.row(2, 0, 2));
                for (int i = 0; i < things / stride; i++) {
                    int place = (i + 1) * stride - 1;
                    Checks.due(name + ", place " + i, place, x.entry(2, 0, 4 + i, 3));
                    Checks.due(name + ", key " + i, 100 + place, x.entry(2, 0, 4 + i, 0));
                    Checks.due(name + ", of row", 0, x.entry(2, 0, 4 + i, 2));
                }
            }
        }
    }

    /** The least stride and full rows: half of what lies in both rows behind comes to what a lead has itself. */
    private static void mostMarks() {
        Checks.says("MARKS of each SHUT ROW of the next LEVEL: for each STRIDE-th of that ROW's ENTRIES (STRIDE 2 to 8)");
        RowStore x = Checks.made(Checks::fill);
        x.stride(2);
        int[] entries = {16, 29, 50, 84, 137, 210, 292, 328, 200};
        for (int level = 0; level < 9; level++) {
            int things = Math.min(1 << level, 200);
            int last = entries[level] - 1;
            int number = level;
            Checks.due("entries of the lead of level " + level, entries[level], x.row(level, 1, 2));
            Checks.due("its things", things, x.row(level, 1, 1));
            Checks.due("its marks", entries[level] - things, x.level(level, 8));
            Checks.due("its last entry is one", 1, x.entry(level, 1, last, 0) >= 0 ? 1 : 0);
            Checks.element("behind it", x, y -> y.entry(number, 1, entries[number], 0));
            Checks.due("entries of the elder row", things, x.row(level, 0, 2));
        }
    }

    private static void leads() {
        Checks.says("The LEAD of a LEVEL is its youngest SHUT ROW. ENTRIES of a SHUT ROW are its THINGS and, of a LEAD,"
                + " MARKS of each SHUT ROW of the next LEVEL");
        RowStore none = new RowStore();
        Checks.due("no shut row", NONE, none.level(0, 7));
        Checks.due("no marks", 0, none.level(0, 8));
        RowStore x = Checks.packed(100, 2);
        x.stride(2);
        x.budget(0);
        x.put(1, 1);
        Checks.due("the one row is the lead", 0, x.level(0, 7));
        Checks.due("its mark", 1, x.row(0, 0, 3));
        x.put(2, 2);
        Checks.due("the younger one is", 1, x.level(0, 7));
        Checks.due("it has the mark", 1, x.row(0, 1, 3));
        Checks.due("the elder one has none", 0, x.row(0, 0, 3));
        Checks.due("but its thing", 1, x.row(0, 0, 2));
        RowStore far = Checks.packed(100, 4);
        far.stride(2);
        far.put(1, 1);
        Checks.due("of the next level alone", 0, far.level(0, 8));
        Checks.due("low, where the level ahead has no lead", 0, far.bounds(199, 2, 0, false));
        Checks.due("high", 4, far.bounds(0, 2, 0, true));
    }

    private static void likeKeys() {
        Checks.says("ENTRIES lie by KEYS, of like ones the THING first, then MARKS of the younger ROW, then of the other"
                + " one, by PLACES; they are numbered from 0 on.");
        RowStore x = new RowStore();
        x.stride(2);
        x.budget(2);
        x.put(1, 1);
        x.put(9, 1);
        x.put(2, 1);
        x.put(9, 2);
        x.budget(0);
        x.put(9, 3);
        Checks.due("two rows behind", 2, x.level(1, 0));
        int[][] want = {{9, 0, 3, NONE}, {9, 2, 1, 1}, {9, 2, 0, 1}};
        for (int i = 0; i < 3; i++) {
            for (int what = 0; what < 4; what++) {
                Checks.due("entry(0, 0, " + i + ", " + what + ")", want[i][what], x.entry(0, 0, i, what));
            }
        }
        Checks.due("the thing is found", 9, x.entry(0, 0, x.falls(9, 0, 0), 0));
        Checks.due("at 0", 0, x.falls(9, 0, 0));
    }

    /** A mark of a mark: of like keys in one row the lower place comes first. */
    private static void marksOfMarks() {
        Checks.says("then of the other one, by PLACES");
        RowStore x = Checks.packed(10, 4);
        x.stride(2);
        x.put(11, 1);
        x.put(13, 1);
        x.put(5, 1);
        // Level 1: 11, 11 (mark), 13, 13 (mark); so both marks in level 0 are of marks.
        Checks.due("entries of level 1", 4, x.row(1, 0, 2));
        int[][] want = {{5, 0, 1, NONE}, {11, 2, 0, 1}, {13, 2, 0, 3}};
        for (int i = 0; i < 3; i++) {
            for (int what = 0; what < 4; what++) {
                Checks.due("entry(0, 0, " + i + ", " + what + ")", want[i][what], x.entry(0, 0, i, what));
            }
        }
    }

    private static void narrowed() {
        Checks.says("low is the PLACE of the last MARK of that ROW ahead of where the KEY FELL in the LEAD, and 1;"
                + " high is the PLACE of the first MARK of it from there on (if there are such MARKS).");
        RowStore x = Checks.packed(100, 8);
        Checks.putAll(x, 1, 2, 3, 4);
        // Level 2: 1 2 3 4 103(3) 107(7).
        int[] keys = {0, 100, 103, 104, 107, 108, 199};
        int[] lows = {0, 0, 0, 4, 4, 8, 8};
        int[] highs = {3, 3, 3, 7, 7, 8, 8};
        int[] fells = {0, 0, 3, 4, 7, 8, 8};
        for (int i = 0; i < keys.length; i++) {
            Checks.due("low of " + keys[i], lows[i], x.bounds(keys[i], 3, 0, false));
            Checks.due("high of " + keys[i], highs[i], x.bounds(keys[i], 3, 0, true));
            Checks.due("where " + keys[i] + " falls", fells[i], x.falls(keys[i], 3, 0));
        }
        x.stride(8);
        Checks.due("low where there is one mark", 0, x.bounds(107, 3, 0, false));
        Checks.due("high where there is one mark", 7, x.bounds(107, 3, 0, true));
        Checks.due("low behind it", 8, x.bounds(108, 3, 0, false));
        RowStore y = Checks.packed(100, 7);
        Checks.putAll(y, 1, 2, 3, 4);
        y.stride(8);
        Checks.due("low without a mark", 0, y.bounds(150, 3, 0, false));
        Checks.due("high without a mark", 7, y.bounds(0, 3, 0, true));
    }

    /** Level 0: 11 (a mark), 199, so the mark is the ENTRY of number 0. */
    private static void firstEntryMarks() {
        Checks.says("low is the PLACE of the last MARK of that ROW ahead of where the KEY FELL in the LEAD, and 1;"
                + " high is the PLACE of the first MARK of it from there on (if there are such MARKS).");
        RowStore x = Checks.packed(10, 2);
        x.stride(2);
        x.put(199, 1);
        Checks.due("entry 0 is a mark", 2, x.entry(0, 0, 0, 1));
        Checks.due("low behind it", 2, x.bounds(12, 1, 0, false));
        Checks.due("high behind it", 2, x.bounds(12, 1, 0, true));
        Checks.due("low ahead of it", 0, x.bounds(10, 1, 0, false));
        Checks.due("high ahead of it", 1, x.bounds(10, 1, 0, true));
        Checks.due("low at its key", 0, x.bounds(11, 1, 0, false));
        Checks.due("high at its key", 1, x.bounds(11, 1, 0, true));
    }

    /** Level 0: 20 (a mark of row 0), 25, 40 (a mark of row 1); the THING's VALUE is a number that a ROW has, too. */
    private static void marksOfThatRow() {
        Checks.says("the last MARK of that ROW ahead .. the first MARK of it from there on (if there are such MARKS).");
        for (int value = 0; value <= 1; value++) {
            RowStore x = new RowStore();
            x.stride(2);
            x.budget(2);
            Checks.putAll(x, 10, 20, 30, 40);
            x.budget(0);
            x.put(25, value);
            Checks.due("row of the first mark", 0, x.entry(0, 0, 0, 2));
            Checks.due("row of the last mark", 1, x.entry(0, 0, 2, 2));
            Checks.due("low in row 0, behind its mark", 2, x.bounds(30, 1, 0, false));
            Checks.due("high in row 0, none is left", 2, x.bounds(30, 1, 0, true));
            Checks.due("low in row 1, ahead of its mark", 0, x.bounds(30, 1, 1, false));
            Checks.due("high in row 1", 1, x.bounds(30, 1, 1, true));
            Checks.due("high in row 1, past the thing", 1, x.bounds(22, 1, 1, true));
            Checks.due("low in row 1, behind its mark", 2, x.bounds(41, 1, 1, false));
        }
    }

    private static void halves() {
        Checks.says("By HALVES: as long as low is less than high, the ENTRY at half of low and high together (cut)"
                + " is LOOKED at");
        RowStore one = Checks.with(50);
        Checks.due("one entry, that key", 2, one.looks(50, true));
        Checks.due("one entry, a lower key", 2, one.looks(49, true));
        Checks.due("one entry, a higher key: none is there", 1, one.looks(51, true));
        RowStore two = Checks.packed(50, 2);
        Checks.due("two entries, the lower", 3, two.looks(50, true));
        Checks.due("two entries, the higher", 3, two.looks(51, true));
        Checks.due("two entries, behind both", 1, two.looks(52, true));
        RowStore five = Checks.packed(50, 5);
        // Places 2, 1, 0 or 2, 1; 2, 4, 3 or 2, 4; then one look more where it falls, if there is an entry.
        int[] looks = {4, 4, 3, 4, 4, 2};
        for (int i = 0; i < looks.length; i++) {
            Checks.due("five entries, " + i, looks[i], five.looks(50 + i, true));
        }
        Checks.due("no entry at all", 0, new RowStore().looks(50, true));
        Checks.says("It FALLS at low; the ENTRY there, if there is one, is LOOKED at once more");
        RowStore x = Checks.packed(100, 8);
        Checks.putAll(x, 1, 2, 3, 4);
        Checks.due("low is high: no look", 0, x.route(199, 1, 5));
        Checks.due("where it falls", 8, x.route(199, 1, 4));
    }

    private static void tolls() {
        Checks.says("TOLLS: STEPS (FORCED ones, too) of the latest 40 ACTS.");
        RowStore x = new RowStore();
        int[] took = new int[100];
        x.budget(3);
        for (int i = 0; i < 100; i++) {
            took[i] = x.put(i, 1);
            Checks.due("the latest of " + i, took[i], x.toll(0));
            if (i >= 39) {
                Checks.due("the eldest of " + i, took[i - 39], x.toll(39));
            }
        }
        for (int ago = 0; ago < 40; ago++) {
            Checks.due("toll(" + ago + ")", took[99 - ago], x.toll(ago));
        }
        x.steps(5);
        x.pack();
        Checks.due("steps and pack are no acts", took[99], x.toll(0));
    }

    private static void aheadKeys() {
        Checks.says("the i-th (0 on) putting KEY (37 times i and 11) MOD 200 with VALUE 0.");
        RowStore x = Checks.with(11, 196, 33);
        int[] there = {3, 3, 4, 5, 6, 7, 7, 7, 8};
        for (int n = 0; n < there.length; n++) {
            Checks.due("ahead(" + n + ", 4)", there[n], x.ahead(n, 4));
        }
        Checks.due("64 unlike keys, three of them there", 64, x.ahead(64, 4));
        // The 64th is KEY 37 * 63 and 11, 2342, MOD 200: 142.
        Checks.due("the last one's key", 64, Checks.with(142).ahead(64, 4));
        Checks.due("it is new to 63", 64, Checks.with(142).ahead(63, 4));
    }

    /** A merge that is under way goes on where it is, in the younger row as in the elder one. */
    private static void aheadFromNow() {
        Checks.says("AHEAD by n ACTS (0 to 64): as if so many came");
        int[][] orders = {{1, 2}, {2, 1}};
        for (int[] keys : orders) {
            RowStore x = new RowStore();
            x.budget(0);
            Checks.putAll(x, keys);
            Checks.due("two steps make room", 2, x.ahead(1, 1));
            x.steps(1);
            Checks.due("one is left", 1, x.ahead(1, 1));
            Checks.due("one act is due", 1, x.due(0));
        }
        RowStore x = Checks.with(1, 2, 3, 4);
        x.drop(11);
        Checks.due("keys", 4, x.count(6));
        Checks.due("what comes is younger than all that is shut", 5, x.ahead(1, 4));
        Checks.due("and it is so again", 5, x.ahead(1, 4));
    }

    private static void calmest() {
        Checks.says("CALM for n: the least BUDGET (0 to 40) by which none of these n ACTS would have a FORCED STEP; none.");
        Checks.due("no acts, nothing forced", 0, Checks.made(Checks::fill).calm(0));
        Checks.due("one act is forced at once", NONE, Checks.made(Checks::fill).calm(1));
        RowStore x = new RowStore();
        Checks.due("two rows are free", 0, x.calm(2));
        Checks.due("a third act needs two steps", 2, x.calm(3));
        x.budget(40);
        Checks.due("whatever the budget is", 2, x.calm(3));
        Checks.due("40 is the last", 40, Checks.made(y -> wait(y, 10)).calm(2));
        Checks.due("41 is none", NONE, Checks.made(y -> wait(y, 11)).calm(2));
    }

    /** Room for one act; then so many steps of level 4, and 16, 8, 4 and 2 of those ahead, make room for another. */
    private static void wait(RowStore x, int left) {
        x.budget(0);
        Checks.round(x, 0, 61, 1);
        x.steps(32 - left);
        Checks.due("left in level 4", left, x.level(4, 5));
        Checks.due("row 1 of level 0 is free", 0, x.row(0, 1, 0));
    }

    public static void main(String[] args) {
        keysAndValues();
        free();
        rising();
        younger();
        thirdRow();
        begins();
        bare();
        from8Back();
        step();
        through();
        forced();
        firstFreeRow();
        budget();
        signComes();
        there();
        strides();
        mostMarks();
        leads();
        likeKeys();
        marksOfMarks();
        narrowed();
        firstEntryMarks();
        marksOfThatRow();
        halves();
        tolls();
        aheadKeys();
        aheadFromNow();
        calmest();
        Checks.end();
    }
}
