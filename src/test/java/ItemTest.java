/** Promise 9: what was laid out last can be asked for, and nothing else. */
public final class ItemTest {
    private static final Expect EXPECT = new Expect("ItemTest");

    public static void main(String[] args) {
        withoutABox();
        bounds();
        staysUntilTheNextRun();
        order();
        EXPECT.end();
    }

    private static void withoutABox() {
        FormulaLists lists = new FormulaLists();
        lists.atom(0, 9);
        EXPECT.sizes("before a run", lists, 0, 0, 0);
        EXPECT.refusal("item(0, 0) before a run", IndexOutOfBoundsException.class, () -> lists.item(0, 0));
        EXPECT.refusal("item(-1, 3) before a run", IndexOutOfBoundsException.class, () -> lists.item(-1, 3));
    }

    private static void bounds() {
        FormulaLists lists = new FormulaLists();
        lists.atom(0, 9);
        lists.atom(0, 3);
        lists.run(0);
        int[][] wrong = {{2, 0}, {-2, 0}, {-2, 8}, {0, 8}, {0, -1}, {1, 8}, {-1, 3}, {-1, -1}, {-1, 7}, {Integer.MAX_VALUE, 0},
            {Integer.MIN_VALUE, 0}, {0, Integer.MAX_VALUE}, {0, Integer.MIN_VALUE}, {1 << 29, 0}, {1, -8}};
        for (int[] pair : wrong) {
            EXPECT.refusal("item(" + pair[0] + ", " + pair[1] + ")", IndexOutOfBoundsException.class, () -> lists.item(pair[0], pair[1]));
        }
        EXPECT.item("item 0", lists, 0, 0, 0, 0, 10, 80, 9, 0, 0);
        EXPECT.item("item 1", lists, 1, 0, 80, 0, 10, 70, 3, 1, 0);
        EXPECT.sizes("sizes", lists, 150, 50, 20);
    }

    private static void staysUntilTheNextRun() {
        FormulaLists lists = new FormulaLists();
        lists.atom(0, 0);
        lists.atom(3, 1);
        lists.run(0);
        lists.split(0, 0);
        lists.atom(0, 2);
        lists.style(3, true);
        EXPECT.sizes("after changes", lists, 40 + 30 + 50, 60, 0);
        EXPECT.item("item 1 after changes", lists, 1, 0, 70, 0, 10, 50, 1, 1, 0);
        lists.run(0);
        EXPECT.sizes("after the next run", lists, 40, 50, 0);
        EXPECT.refusal("item 1 after the next run", IndexOutOfBoundsException.class, () -> lists.item(1, 0));
        lists.atom(8, 0);
        lists.run(2);
        EXPECT.sizes("after the run of an empty list", lists, 0, 0, 0);
        EXPECT.refusal("item 0 of an empty list", IndexOutOfBoundsException.class, () -> lists.item(0, 0));
    }

    private static void order() {
        FormulaLists lists = new FormulaLists();
        for (int list = 1; list <= 5; list++) {
            lists.atom(8, 0);
            lists.atom(0, list);
        }
        lists.atom(8, 0);
        lists.fraction(2, 1, 9);
        lists.script(5, false, 3);
        lists.script(5, true, 4);
        lists.atom(8, 0);
        lists.fence(5, 6, 5);
        lists.script(6, true, 5);
        lists.run(7);
        // Left, then over, under, rule, upper and lower of the fraction, then right, then the fence's upper one.
        int[] nodes = {6, 1, 0, 5, 3, 2, 6, 4};
        int[] what = {2, 0, 0, 1, 0, 0, 2, 0};
        for (int i = 0; i < nodes.length; i++) {
            int item = i;
            EXPECT.answer("node of item " + i, nodes[i], () -> lists.item(item, 6));
            EXPECT.answer("what item " + i + " is", what[i], () -> lists.item(item, 0));
        }
        EXPECT.answer("how many", 8, () -> lists.run(7));
    }
}
