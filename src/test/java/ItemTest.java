/** Promise 9: what was laid out last can be asked for, and nothing else. */
public final class ItemTest {
    private static final Expect EXPECT = new Expect("ItemTest");

    public static void main(String[] args) {
        withoutABox();
        otherItems();
        otherValues();
        otherSizes();
        theLastItem();
        eachForm();
        staysUntilTheNextRun();
        order();
        EXPECT.end();
    }

    /** "(0 without one)" */
    private static void withoutABox() {
        FormulaLists lists = new FormulaLists();
        lists.atom(0, 9);
        EXPECT.sizes("before a run", lists, 0, 0, 0);
        EXPECT.refusal("item(0, 0) before a run", IndexOutOfBoundsException.class, () -> lists.item(0, 0));
        EXPECT.refusal("item(-1, 3) before a run", IndexOutOfBoundsException.class, () -> lists.item(-1, 3));
        EXPECT.refusal("item(-1, -1) before a run", IndexOutOfBoundsException.class, () -> lists.item(-1, -1));
        EXPECT.refusal("run of no list", java.util.NoSuchElementException.class, () -> lists.run(1));
        EXPECT.sizes("before a run that is not refused", lists, 0, 0, 0);
    }

    private static FormulaLists twoItems() {
        FormulaLists lists = new FormulaLists();
        lists.atom(0, 9);
        lists.atom(0, 3);
        lists.run(0);
        return lists;
    }

    private static void bothAreThere(FormulaLists lists) {
        EXPECT.item("item 0", lists, 0, 0, 0, 0, 10, 80, 9, 0, 0);
        EXPECT.item("item 1", lists, 1, 0, 80, 0, 10, 70, 3, 1, 0);
        EXPECT.sizes("sizes", lists, 150, 50, 20);
    }

    /** "IndexOutOfBoundsException": an item too small, or too large. */
    private static void otherItems() {
        FormulaLists lists = twoItems();
        for (int wrong : new int[] {2, -2, 150, 1 << 29, -(1 << 29), Integer.MAX_VALUE, Integer.MIN_VALUE}) {
            for (int what = 0; what < 8; what++) {
                int asked = what;
                EXPECT.refusal("item(" + wrong + ", " + what + ")", IndexOutOfBoundsException.class, () -> lists.item(wrong, asked));
            }
        }
        bothAreThere(lists);
    }

    /** "IndexOutOfBoundsException": of an item there are 0 .. 7. */
    private static void otherValues() {
        FormulaLists lists = twoItems();
        for (int wrong : new int[] {-1, 8, -8, 16, Integer.MAX_VALUE, Integer.MIN_VALUE}) {
            EXPECT.refusal("item(0, " + wrong + ")", IndexOutOfBoundsException.class, () -> lists.item(0, wrong));
            EXPECT.refusal("item(1, " + wrong + ")", IndexOutOfBoundsException.class, () -> lists.item(1, wrong));
        }
        bothAreThere(lists);
    }

    /** "IndexOutOfBoundsException": of the box there are 0 .. 2. */
    private static void otherSizes() {
        FormulaLists lists = twoItems();
        for (int wrong : new int[] {-1, 3, 4, 5, 6, 7, 8, Integer.MAX_VALUE, Integer.MIN_VALUE}) {
            EXPECT.refusal("item(-1, " + wrong + ")", IndexOutOfBoundsException.class, () -> lists.item(-1, wrong));
        }
        bothAreThere(lists);
    }

    private static void theLastItem() {
        FormulaLists lists = new FormulaLists();
        for (int node = 0; node < 120; node++) {
            lists.atom(0, node);
        }
        lists.run(0);
        EXPECT.answer("the last one's sign", 119, () -> lists.item(119, 5));
        EXPECT.answer("whether it is short", 0, () -> lists.item(119, 7));
        EXPECT.refusal("one behind it", IndexOutOfBoundsException.class, () -> lists.item(120, 0));
    }

    /** "0 sign, 1 rule, 2 delimiter", "(0 of a rule)", "whether it is SHORT (1, or 0)" */
    private static void eachForm() {
        FormulaLists lists = new FormulaLists();
        lists.atom(8, 0);
        lists.atom(0, 255);
        lists.atom(8, 0);
        lists.atom(8, 0);
        lists.fraction(1, 2, 1000);
        lists.atom(8, 0);
        lists.fence(5, 3, 0);
        lists.run(4);
        EXPECT.item("a short delimiter", lists, 0, 2, 0, 0, 4, 40, 5, 2, 1);
        EXPECT.item("a sign", lists, 1, 0, 45, 20 + 500 + 30 + 20, 10, 40, 255, 0, 0);
        EXPECT.item("a rule", lists, 2, 1, 40, -480, 1000, 50, 0, 1, 0);
    }

    /** "Of the box that was laid out last" */
    private static void staysUntilTheNextRun() {
        FormulaLists lists = new FormulaLists();
        lists.atom(0, 0);
        lists.atom(3, 1);
        lists.run(0);
        lists.split(0, 0);
        lists.atom(0, 2);
        lists.style(3, true);
        EXPECT.sizes("after changes", lists, 40 + 30 + 50, 60, 0);
        EXPECT.item("item 1 after changes", lists, 1, 0, 70, 0, 10, 50, 1, 1, 0);
        lists.run(0);
        EXPECT.sizes("after the next run", lists, 40, 50, 0);
        EXPECT.refusal("item 1 after the next run", IndexOutOfBoundsException.class, () -> lists.item(1, 0));
        lists.atom(8, 0);
        lists.run(2);
        EXPECT.sizes("after the run of an empty list", lists, 0, 0, 0);
        EXPECT.refusal("item 0 of an empty list", IndexOutOfBoundsException.class, () -> lists.item(0, 0));
    }

    private static void order() {
        FormulaLists lists = new FormulaLists();
        for (int list = 1; list <= 5; list++) {
            lists.atom(8, 0);
            lists.atom(0, list);
        }
        lists.atom(8, 0);
        lists.fraction(2, 1, 9);
        lists.script(5, false, 3);
        lists.script(5, true, 4);
        lists.atom(8, 0);
        lists.fence(5, 6, 5);
        lists.script(6, true, 5);
        lists.run(7);
        // Left, then over, under, rule, upper and lower of the fraction, then right, then the fence's upper one.
        int[] nodes = {6, 1, 0, 5, 3, 2, 6, 4};
        int[] what = {2, 0, 0, 1, 0, 0, 2, 0};
        for (int i = 0; i < nodes.length; i++) {
            int item = i;
            EXPECT.answer("node of item " + i, nodes[i], () -> lists.item(item, 6));
            EXPECT.answer("what item " + i + " is", what[i], () -> lists.item(item, 0));
        }
        EXPECT.answer("how many", 8, () -> lists.run(7));
    }
}
