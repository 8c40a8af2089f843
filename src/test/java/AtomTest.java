/** Promise 2: atoms and lists begin, up to 120 and 30, and wrong kinds and signs are refused first. */
public final class AtomTest {
    private static final Expect EXPECT = new Expect("AtomTest");

    public static void main(String[] args) {
        numbersCountUp();
        wrongArgumentsChangeNothing();
        sizesOfSigns();
        nodesEnd();
        listsEnd();
        EXPECT.end();
    }

    private static void numbersCountUp() {
        FormulaLists lists = new FormulaLists();
        EXPECT.answer("atom(0, 0)", 0, () -> lists.atom(0, 0));
        EXPECT.answer("atom(7, 255)", 1, () -> lists.atom(7, 255));
        EXPECT.answer("atom(8, 0)", 1, () -> lists.atom(8, 0));
        EXPECT.answer("atom(3, 9)", 2, () -> lists.atom(3, 9));
        EXPECT.answer("atom(8, -7): the nucleus does not matter", 2, () -> lists.atom(8, -7));
        EXPECT.answer("atom(8, 256)", 3, () -> lists.atom(8, 256));
        EXPECT.answer("run(0)", 2, () -> lists.run(0));
        EXPECT.answer("run(1)", 1, () -> lists.run(1));
        EXPECT.answer("run(2)", 0, () -> lists.run(2));
    }

    private static void wrongArgumentsChangeNothing() {
        FormulaLists lists = new FormulaLists();
        int[][] wrong = {{-1, 0}, {9, 0}, {0, -1}, {0, 256}, {7, 256}, {Integer.MAX_VALUE, 1}, {Integer.MIN_VALUE, 1},
            {1, Integer.MIN_VALUE}, {1, Integer.MAX_VALUE}, {9, 256}};
        for (int[] pair : wrong) {
            EXPECT.refusal("atom(" + pair[0] + ", " + pair[1] + ")", IllegalArgumentException.class, () -> lists.atom(pair[0], pair[1]));
        }
        EXPECT.answer("run(0) after refusals", 0, () -> lists.run(0));
        EXPECT.answer("atom(0, 1) after refusals", 0, () -> lists.atom(0, 1));
    }

    private static void sizesOfSigns() {
        for (int sign = 0; sign < 256; sign++) {
            FormulaLists lists = new FormulaLists();
            lists.atom(0, sign);
            lists.run(0);
            EXPECT.sizes("sign " + sign, lists, 10 * (4 + sign % 5), 10 * (5 + sign % 3), sign % 4 == 3 ? 20 : 0);
            FormulaLists operators = new FormulaLists();
            operators.atom(1, sign);
            operators.run(0);
            EXPECT.sizes("operator " + sign, operators, 14 * (4 + sign % 5), 14 * (5 + sign % 3), sign % 4 == 3 ? 28 : 0);
        }
    }

    private static void nodesEnd() {
        FormulaLists lists = new FormulaLists();
        for (int i = 0; i < 120; i++) {
            int due = i;
            EXPECT.answer("atom(0, 1), the one after " + i, due, () -> lists.atom(0, 1));
        }
        EXPECT.refusal("atom(0, 1) behind 120 nodes", UnsupportedOperationException.class, () -> lists.atom(0, 1));
        EXPECT.refusal("atom(0, 256) behind 120 nodes", IllegalArgumentException.class, () -> lists.atom(0, 256));
        EXPECT.answer("atom(8, 0) behind 120 nodes", 1, () -> lists.atom(8, 0));
        EXPECT.answer("run(0) of 120 nodes", 120, () -> lists.run(0));
        EXPECT.answer("item(119, 6)", 119, () -> lists.item(119, 6));
    }

    private static void listsEnd() {
        FormulaLists lists = new FormulaLists();
        for (int i = 1; i < 30; i++) {
            int due = i;
            EXPECT.answer("atom(8, 0), list " + i, due, () -> lists.atom(8, 0));
        }
        EXPECT.refusal("atom(8, 0) behind 30 lists", UnsupportedOperationException.class, () -> lists.atom(8, 0));
        EXPECT.answer("atom(0, 1) behind 30 lists", 0, () -> lists.atom(0, 1));
        EXPECT.answer("run(29): the last list is still open", 1, () -> lists.run(29));
    }
}
