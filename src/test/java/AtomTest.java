/** Promise 2: atoms and lists begin, up to 120 and 30, and wrong kinds and signs are refused first. */
public final class AtomTest {
    private static final Expect EXPECT = new Expect("AtomTest");

    public static void main(String[] args) {
        numbersCountUp();
        kindsAndSigns();
        wrongKinds();
        wrongSigns();
        nucleusOfAListDoesNotMatter();
        sizesOfSigns();
        nodesEnd();
        listsEnd();
        wrongArgumentsGoFirst();
        EXPECT.end();
    }

    /** "A new atom: its number; kind 8: a list begins: its number": each counts for itself. */
    private static void numbersCountUp() {
        FormulaLists lists = new FormulaLists();
        EXPECT.answer("atom(0, 0)", 0, () -> lists.atom(0, 0));
        EXPECT.answer("atom(7, 255)", 1, () -> lists.atom(7, 255));
        EXPECT.answer("atom(8, 0)", 1, () -> lists.atom(8, 0));
        EXPECT.answer("atom(3, 9)", 2, () -> lists.atom(3, 9));
        EXPECT.answer("atom(8, 0) again", 2, () -> lists.atom(8, 0));
        EXPECT.answer("run(0)", 2, () -> lists.run(0));
        EXPECT.answer("run(1)", 1, () -> lists.run(1));
        EXPECT.answer("run(2)", 0, () -> lists.run(2));
    }

    /** "kind 0 .. 7, a sign (0 .. 255)": the first and the last ones are taken as they are. */
    private static void kindsAndSigns() {
        for (int kind = 0; kind < 8; kind++) {
            for (int sign : new int[] {0, 255}) {
                FormulaLists lists = new FormulaLists();
                int told = kind;
                EXPECT.answer("atom(" + kind + ", " + sign + ")", 0, () -> lists.atom(told, sign));
                lists.run(0);
                EXPECT.answer("its sign", sign, () -> lists.item(0, 5));
                EXPECT.answer("its kind, alone in its list", told == 2 ? 0 : told, () -> lists.kind(0));
            }
        }
    }

    /** "IllegalArgumentException": a kind too small, or too large. */
    private static void wrongKinds() {
        FormulaLists lists = new FormulaLists();
        for (int kind : new int[] {-1, 9, Integer.MIN_VALUE, Integer.MIN_VALUE + 8, Integer.MAX_VALUE, 256, -248}) {
            EXPECT.refusal("atom(" + kind + ", 1)", IllegalArgumentException.class, () -> lists.atom(kind, 1));
        }
        nothingWasMade(lists);
    }

    /** "IllegalArgumentException": a sign too small, or too large, of any kind. */
    private static void wrongSigns() {
        FormulaLists lists = new FormulaLists();
        for (int sign : new int[] {-1, 256, Integer.MIN_VALUE, Integer.MAX_VALUE}) {
            for (int kind = 0; kind < 8; kind++) {
                int told = kind;
                EXPECT.refusal("atom(" + kind + ", " + sign + ")", IllegalArgumentException.class, () -> lists.atom(told, sign));
            }
        }
        nothingWasMade(lists);
    }

    private static void nothingWasMade(FormulaLists lists) {
        EXPECT.answer("run(0) after refusals", 0, () -> lists.run(0));
        EXPECT.answer("atom(0, 1) after refusals", 0, () -> lists.atom(0, 1));
        EXPECT.answer("atom(8, 0) after refusals", 1, () -> lists.atom(8, 0));
    }

    /** "(nucleus does not matter)" */
    private static void nucleusOfAListDoesNotMatter() {
        FormulaLists lists = new FormulaLists();
        int due = 1;
        for (int nucleus : new int[] {0, -1, 256, Integer.MIN_VALUE, Integer.MAX_VALUE}) {
            int number = due;
            EXPECT.answer("atom(8, " + nucleus + ")", number, () -> lists.atom(8, nucleus));
            EXPECT.answer("it is empty", 0, () -> lists.run(number));
            due++;
        }
    }

    /** "width size (4 + c % 5), height size (5 + c % 3), depth 2 size if c % 4 is 3, else 0" */
    private static void sizesOfSigns() {
        for (int sign = 0; sign < 256; sign++) {
            FormulaLists lists = new FormulaLists();
            lists.atom(0, sign);
            lists.run(0);
            EXPECT.sizes("sign " + sign, lists, 10 * (4 + sign % 5), 10 * (5 + sign % 3), sign % 4 == 3 ? 20 : 0);
            FormulaLists operators = new FormulaLists();
            operators.atom(1, sign);
            operators.run(0);
            EXPECT.sizes("operator " + sign, operators, 14 * (4 + sign % 5), 14 * (5 + sign % 3), sign % 4 == 3 ? 28 : 0);
        }
    }

    /** "UnsupportedOperationException when there are 120 nodes": lists still begin. */
    private static void nodesEnd() {
        FormulaLists lists = new FormulaLists();
        for (int i = 0; i < 120; i++) {
            int due = i;
            EXPECT.answer("atom(0, 1), the one after " + i, due, () -> lists.atom(0, 1));
        }
        EXPECT.refusal("atom(0, 1) behind 120 nodes", UnsupportedOperationException.class, () -> lists.atom(0, 1));
        EXPECT.refusal("atom(7, 255) behind 120 nodes", UnsupportedOperationException.class, () -> lists.atom(7, 255));
        EXPECT.answer("atom(8, 0) behind 120 nodes", 1, () -> lists.atom(8, 0));
        EXPECT.refusal("atom(0, 1) into another list", UnsupportedOperationException.class, () -> lists.atom(0, 1));
        EXPECT.answer("run(1)", 0, () -> lists.run(1));
        EXPECT.answer("run(0) of 120 nodes", 120, () -> lists.run(0));
        EXPECT.answer("item(119, 6)", 119, () -> lists.item(119, 6));
    }

    /** "UnsupportedOperationException when there are 30 lists": atoms are still made. */
    private static void listsEnd() {
        FormulaLists lists = new FormulaLists();
        for (int i = 1; i < 30; i++) {
            int due = i;
            EXPECT.answer("atom(8, 0), list " + i, due, () -> lists.atom(8, 0));
        }
        EXPECT.refusal("atom(8, 0) behind 30 lists", UnsupportedOperationException.class, () -> lists.atom(8, 0));
        EXPECT.refusal("atom(8, 0) once more", UnsupportedOperationException.class, () -> lists.atom(8, 0));
        EXPECT.answer("atom(0, 1) behind 30 lists", 0, () -> lists.atom(0, 1));
        EXPECT.answer("run(29): the last list is still open", 1, () -> lists.run(29));
        EXPECT.refusal("run(30)", java.util.NoSuchElementException.class, () -> lists.run(30));
    }

    /** "it is the one that it names first": the argument before the full object. */
    private static void wrongArgumentsGoFirst() {
        FormulaLists lists = new FormulaLists();
        for (int i = 0; i < 120; i++) {
            lists.atom(0, 1);
        }
        for (int i = 1; i < 30; i++) {
            lists.atom(8, 0);
        }
        EXPECT.refusal("a wrong sign, and 120 nodes", IllegalArgumentException.class, () -> lists.atom(0, 256));
        EXPECT.refusal("a wrong kind, and 120 nodes", IllegalArgumentException.class, () -> lists.atom(-1, 0));
        EXPECT.refusal("a kind behind 8, and 30 lists", IllegalArgumentException.class, () -> lists.atom(9, 0));
        EXPECT.refusal("an atom, all full", UnsupportedOperationException.class, () -> lists.atom(0, 0));
        EXPECT.refusal("a list, all full", UnsupportedOperationException.class, () -> lists.atom(8, -1));
    }
}
