/** What is asked, then changed by each call that changes rows or marks, then asked again: the answer is the new one. */
public final class AgainTest {
    private static final int NONE = RowStore.NONE;

    /** Level 0: 50, 101 (a mark). Level 1: 100, 101. */
    private static RowStore asked() {
        RowStore x = Checks.packed(100, 2);
        x.budget(0);
        x.stride(2);
        x.put(50, 5);
        Checks.due("entries", 2, x.row(0, 0, 2));
        Checks.due("looks", 5, x.looks(100, false));
        Checks.due("the most looks", 5, x.count(14));
        Checks.due("high", 1, x.bounds(0, 1, 0, true));
        return x;
    }

    private static void acts() {
        Checks.says("A KEY is put");
        RowStore x = asked();
        x.put(199, 1);
        Checks.due("the lead's entries", 2, x.row(0, 1, 2));
        Checks.due("the elder row's entries", 1, x.row(0, 0, 2));
        Checks.due("looks", 6, x.looks(100, false));
        Checks.says("A KEY is dropped");
        RowStore y = asked();
        y.drop(100);
        Checks.due("looks to the sign", 3, y.looks(100, false));
        Checks.due("a sign", 1, y.entry(0, 1, 0, 1));
        Checks.says("The tape's first n bytes: an ACT each");
        RowStore z = asked();
        z.feed(0xC7010000, 0, 0, 0, 0);
        Checks.due("acts", 1, z.batch(2));
        Checks.due("the lead's last entry", 199, z.entry(0, 1, 1, 0));
    }

    private static void steps() {
        Checks.says("So many STEPS");
        RowStore x = asked();
        x.put(60, 1);
        Checks.due("marks of level 0", 1, x.level(0, 8));
        x.steps(2);
        Checks.due("no lead, no marks", 0, x.level(0, 8));
        Checks.due("entries of the new row", 2, x.row(1, 1, 2));
        Checks.due("high without a lead ahead", 2, x.bounds(0, 1, 0, true));
    }

    private static void marks() {
        Checks.says("MARKS are others from then on");
        RowStore x = asked();
        x.stride(3);
        Checks.due("no mark", 1, x.row(0, 0, 2));
        Checks.due("high", 2, x.bounds(0, 1, 0, true));
        x.stride(2);
        Checks.due("the mark again", 2, x.row(0, 0, 2));
    }

    private static void packs() {
        Checks.says("All KEYS that are THERE become THINGS of ROW 0 of the least LEVEL");
        RowStore x = asked();
        x.pack();
        Checks.due("three entries", 3, x.row(2, 0, 2));
        Checks.due("none of the old row", 0, x.row(0, 0, 2));
        Checks.due("no mark of it", 0, x.row(0, 0, 3));
        Checks.due("the most looks, of three entries", 3, x.count(14));
        Checks.element("the old row is free", x, y -> y.falls(50, 0, 0));
    }

    private static void views() {
        Checks.says("All becomes as in a VIEW");
        RowStore x = asked();
        x.view(0);
        x.pack();
        Checks.due("entries", 3, x.row(2, 0, 2));
        x.restore(0);
        Checks.due("entries as they were", 2, x.row(0, 0, 2));
        Checks.due("looks as they were", 5, x.looks(100, false));
        Checks.due("the packed row is free", NONE, x.row(2, 0, 5));
    }

    /** The elder row of level 1 never has marks, whatever lies in level 0. */
    private static void elders() {
        Checks.says("ENTRIES of a SHUT ROW are its THINGS and, of a LEAD, MARKS");
        RowStore x = new RowStore();
        x.stride(2);
        x.budget(2);
        Checks.putAll(x, 10, 20, 30, 40);
        x.budget(0);
        for (int i = 0; i < 2; i++) {
            x.put(50 + i, 1);
            Checks.due("entries of the lead", 3, x.row(0, i, 2));
            Checks.due("entries of the elder row", 2, x.row(1, 0, 2));
            Checks.due("entries of the lead of level 1", 2, x.row(1, 1, 2));
        }
    }

    public static void main(String[] args) {
        acts();
        steps();
        marks();
        packs();
        views();
        elders();
        Checks.end();
    }
}
