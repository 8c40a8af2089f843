import java.util.NoSuchElementException;

/** Promise 8: any list is laid out in display, however deep, and as often as wanted. */
public final class RunTest {
    private static final Expect EXPECT = new Expect("RunTest");

    public static void main(String[] args) {
        anyList();
        emptyLists();
        inDisplayNotCramped();
        refusals();
        leavesNothingOfAnEarlierRun();
        smallerThanBefore();
        deepFences();
        deepScripts();
        deepLowerScripts();
        deepMatrices();
        deepFractions();
        manyRuns();
        mostItems();
        EXPECT.end();
    }

    private static void anyList() {
        FormulaLists lists = new FormulaLists();
        lists.atom(0, 0);
        lists.atom(8, 0);
        lists.atom(1, 1);
        lists.script(0, true, 1);
        EXPECT.answer("run(0)", 2, () -> lists.run(0));
        EXPECT.answer("as a script", 7, () -> lists.item(1, 3));
        EXPECT.answer("run(1), which is in an atom", 1, () -> lists.run(1));
        EXPECT.item("in display", lists, 0, 0, 0, 0, 14, 70, 1, 1, 0);
        EXPECT.answer("run(0) again", 2, () -> lists.run(0));
        EXPECT.answer("as a script again", 7, () -> lists.item(1, 3));
    }

    /** "Width is the sum, height and depth the greatest (0 at least)": without atoms all are 0. */
    private static void emptyLists() {
        FormulaLists lists = new FormulaLists();
        lists.atom(0, 3);
        lists.atom(8, 0);
        lists.run(0);
        EXPECT.answer("an empty list", 0, () -> lists.run(1));
        EXPECT.sizes("an empty list", lists, 0, 0, 0);
        lists.style(2, true);
        EXPECT.answer("a list of a style", 0, () -> lists.run(1));
        EXPECT.sizes("a list of a style", lists, 0, 0, 0);
    }

    /** "in display, not cramped": also a list whose atom is cramped, or small. */
    private static void inDisplayNotCramped() {
        FormulaLists lists = new FormulaLists();
        lists.style(3, true);
        lists.atom(0, 0);
        lists.atom(8, 0);
        lists.atom(0, 0);
        lists.script(1, false, 1);
        lists.atom(8, 0);
        lists.atom(0, 0);
        lists.script(2, true, 2);
        lists.run(1);
        EXPECT.answer("in display", 10, () -> lists.item(0, 3));
        EXPECT.answer("not cramped", 40, () -> lists.item(1, 2));
    }

    /** "NoSuchElementException", which changes nothing of what was laid out before. */
    private static void refusals() {
        FormulaLists lists = new FormulaLists();
        lists.atom(0, 0);
        lists.run(0);
        for (int wrong : new int[] {-1, 1, 30, Integer.MIN_VALUE, Integer.MAX_VALUE}) {
            EXPECT.refusal("run(" + wrong + ")", NoSuchElementException.class, () -> lists.run(wrong));
        }
        EXPECT.sizes("what was laid out stays", lists, 40, 50, 0);
        EXPECT.item("the item stays", lists, 0, 0, 0, 0, 10, 40, 0, 0, 0);
    }

    private static void leavesNothingOfAnEarlierRun() {
        FormulaLists lists = new FormulaLists();
        lists.atom(8, 0);
        lists.atom(8, 0);
        lists.atom(8, 0);
        lists.atom(1, 3);
        lists.atom(8, 0);
        lists.fraction(1, 2, 900);
        lists.atom(8, 0);
        lists.fence(1, 4, 1);
        lists.run(5);
        EXPECT.answer("a short fence", 1, () -> lists.item(0, 7));
        EXPECT.answer("run of the fraction alone", 1, () -> lists.run(4));
        EXPECT.item("its rule", lists, 0, 1, 0, -430, 900, 10, 0, 1, 0);
        EXPECT.answer("run of the sign alone", 1, () -> lists.run(3));
        EXPECT.item("the sign", lists, 0, 0, 0, 0, 14, 98, 3, 0, 0);
        EXPECT.sizes("the sign", lists, 98, 70, 28);
        lists.atom(8, 0);
        lists.atom(0, 0);
        lists.script(3, true, 3);
        lists.run(6);
        EXPECT.answer("the sign as a script", 7, () -> lists.item(1, 3));
        EXPECT.sizes("with the sign as a script", lists, 40 + 49 + 5, 75, 0);
    }

    private static void smallerThanBefore() {
        FormulaLists lists = new FormulaLists();
        lists.atom(0, 0);
        lists.atom(3, 11);
        lists.run(0);
        EXPECT.sizes("with a high and deep one", lists, 40 + 30 + 50, 70, 20);
        lists.split(0, 0);
        lists.run(0);
        EXPECT.sizes("without it", lists, 40, 50, 0);
        lists.script(0, false, 1);
        lists.run(1);
        EXPECT.sizes("the other one in display", lists, 50, 70, 20);
        lists.run(0);
        EXPECT.sizes("the other one as a script", lists, 40 + 35 + 5, 50, 20 + 14);
    }

    private static void deepFences() {
        FormulaLists lists = new FormulaLists();
        for (int list = 1; list < 30; list++) {
            lists.atom(8, 0);
            if (list > 1) {
                lists.fence(1, list - 1, 1);
            }
        }
        EXPECT.answer("28 fences, one in another", 56, () -> lists.run(29));
        EXPECT.sizes("28 fences", lists, 28 * 60, 50, 10);
        EXPECT.answer("the innermost left one", 27 * 30, () -> lists.item(27, 1));
        EXPECT.answer("the innermost right one", 28 * 30, () -> lists.item(28, 1));
        EXPECT.answer("the outermost right one", 55 * 30, () -> lists.item(55, 1));
        EXPECT.answer("the innermost node", 0, () -> lists.item(28, 6));
    }

    private static void deepScripts() {
        FormulaLists lists = new FormulaLists();
        for (int list = 1; list < 30; list++) {
            lists.atom(0, 0);
            lists.atom(8, 0);
            lists.script(list - 1, true, list);
        }
        lists.atom(0, 0);
        EXPECT.answer("29 scripts, one at another", 30, () -> lists.run(0));
        // The first is at 40, the second 28 above it, the others 20 each.
        EXPECT.answer("the last one's line", 40 + 28 + 27 * 20, () -> lists.item(29, 2));
        EXPECT.answer("the last one's x", 40 + 28 + 27 * 20, () -> lists.item(29, 1));
    }

    private static void deepLowerScripts() {
        FormulaLists lists = new FormulaLists();
        for (int list = 1; list < 30; list++) {
            lists.atom(0, 0);
            lists.atom(8, 0);
            lists.script(list - 1, false, list);
        }
        lists.atom(0, 0);
        EXPECT.answer("29 lower scripts, one at another", 30, () -> lists.run(0));
        // The first is at -20, the second 14 below it, the others 10 each.
        EXPECT.answer("the last lower one's line", -(20 + 14 + 27 * 10), () -> lists.item(29, 2));
    }

    private static void deepMatrices() {
        FormulaLists lists = new FormulaLists();
        lists.atom(8, 0);
        lists.atom(0, 0);
        for (int list = 2; list < 30; list++) {
            lists.atom(8, 0);
            lists.matrix(1, 1);
        }
        EXPECT.answer("28 matrices, one in another", 1, () -> lists.run(29));
        // 50 in all, 25 below the axis: the outer ones find it so already.
        EXPECT.item("the innermost sign", lists, 0, 0, 0, -5, 10, 40, 0, 0, 0);
        EXPECT.sizes("28 matrices", lists, 40, 45, 5);
    }

    /** Two lists each: 14 fractions, in their upper lists or in their lower ones. */
    private static void deepFractions() {
        for (boolean over : new boolean[] {false, true}) {
            FormulaLists lists = new FormulaLists();
            int inner = lists.atom(8, 0);
            lists.atom(0, 0);
            for (int fraction = 1; fraction <= 14; fraction++) {
                int held = inner;
                int empty = lists.atom(8, 0);
                inner = lists.atom(8, 0);
                int due = fraction;
                EXPECT.answer("fraction " + fraction, due, () -> over ? lists.fraction(held, empty, 0) : lists.fraction(empty, held, 0));
            }
            int outermost = inner;
            EXPECT.answer("14 fractions, one in another", 1, () -> lists.run(outermost));
            // The sign is 20 wide, and each fraction Z more than what it holds: 10 and 10, 7, and 11 times 5.
            EXPECT.answer("width of 14 fractions", 20 + 20 + 7 + 11 * 5, () -> lists.item(-1, 0));
        }
    }

    private static void manyRuns() {
        FormulaLists lists = new FormulaLists();
        for (int node = 0; node < 120; node++) {
            lists.atom(node % 8, node);
        }
        String first = null;
        for (int run = 0; run < 392; run++) {
            EXPECT.answer("run " + run, 120, () -> lists.run(0));
            String now = lists.item(-1, 0) + " " + lists.item(119, 1);
            first = first == null ? now : first;
            EXPECT.same("width of run " + run, first, now);
        }
    }

    private static void mostItems() {
        FormulaLists lists = new FormulaLists();
        for (int list = 1; list < 30; list++) {
            lists.atom(8, 0);
            if (list > 1) {
                lists.fence(1, list - 1, 1);
            }
        }
        for (int node = 28; node < 120; node++) {
            lists.atom(0, 0);
        }
        EXPECT.answer("28 fences and 92 signs", 148, () -> lists.run(29));
        EXPECT.answer("the last one", 119, () -> lists.item(147, 6));
        EXPECT.refusal("none behind it", IndexOutOfBoundsException.class, () -> lists.item(148, 6));
    }
}
