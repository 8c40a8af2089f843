import java.util.NoSuchElementException;

/** Promise 4: fractions, with the usual rule, one of their own, or none. */
public final class FractionTest {
    private static final Expect EXPECT = new Expect("FractionTest");

    public static void main(String[] args) {
        usualRule();
        oddRule();
        noRule();
        smallStyles();
        crampedParts();
        emptyLists();
        midstIsDownward();
        refusesListsThatAreNotThere();
        refusesRulesAbove1000();
        refusesOneListTwice();
        refusesListsThatAreNotFree();
        refusesRings();
        nodesEnd();
        refusalsInTheirOrder();
        EXPECT.end();
    }

    /** Lists 1 (sign 3) and 2 (sign 4), and list 3 open: nodes 0 and 1. */
    private static FormulaLists parts() {
        FormulaLists lists = new FormulaLists();
        lists.atom(8, 0);
        lists.atom(0, 3);
        lists.atom(8, 0);
        lists.atom(0, 4);
        lists.atom(8, 0);
        return lists;
    }

    /** "a rule (below 0: the usual one)", "t is its rule, or Z / 2 if that is below 0" */
    private static void usualRule() {
        FormulaLists lists = parts();
        EXPECT.answer("fraction(1, 2, -1)", 2, () -> lists.fraction(1, 2, -1));
        EXPECT.answer("it is inner", 7, () -> lists.kind(2));
        EXPECT.answer("run(3)", 3, () -> lists.run(3));
        // Above: 70 wide, 50 high, 20 deep. Below: 80 wide, 60 high. t is 5, g 30, the axis 20.
        EXPECT.item("over", lists, 0, 0, 10, 20 + 2 + 30 + 20, 10, 70, 3, 0, 0);
        EXPECT.item("under", lists, 1, 0, 5, -(60 + 30 + 3 - 20), 10, 80, 4, 1, 0);
        EXPECT.item("rule", lists, 2, 1, 0, 17, 5, 90, 0, 2, 0);
        EXPECT.sizes("fraction", lists, 90, 122, 73);
        for (long below : new long[] {-2, Integer.MIN_VALUE, Long.MIN_VALUE, Long.MIN_VALUE + 7, 7 - (1L << 32)}) {
            FormulaLists far = parts();
            EXPECT.answer("fraction(1, 2, " + below + ")", 2, () -> far.fraction(1, 2, below));
            far.run(3);
            EXPECT.answer("a rule of " + below + " is the usual one", 5, () -> far.item(2, 3));
        }
    }

    /** "from t - t / 2 below the axis, t high": the least, an odd and the greatest rule. */
    private static void oddRule() {
        FormulaLists thin = parts();
        thin.fraction(1, 2, 1);
        thin.run(3);
        EXPECT.item("a rule of 1", thin, 2, 1, 0, 19, 1, 90, 0, 2, 0);
        EXPECT.sizes("a rule of 1", thin, 90, 20 + 30 + 20 + 50, 60 + 30 + 1 - 20);
        FormulaLists lists = parts();
        lists.fraction(1, 2, 7);
        lists.run(3);
        EXPECT.answer("over: t / 2 is 3", 20 + 3 + 30 + 20, () -> lists.item(0, 2));
        EXPECT.answer("under: the rest is 4", -(60 + 30 + 4 - 20), () -> lists.item(1, 2));
        EXPECT.item("a rule of 7", lists, 2, 1, 0, 16, 7, 90, 0, 2, 0);
        FormulaLists thick = parts();
        EXPECT.answer("a rule of 1000", 2, () -> thick.fraction(1, 2, 1000));
        thick.run(3);
        EXPECT.item("a rule of 1000", thick, 2, 1, 0, -480, 1000, 90, 0, 2, 0);
    }

    /** "If t > 0 there is a rule": 0 is none. */
    private static void noRule() {
        FormulaLists lists = parts();
        lists.fraction(1, 2, 0);
        EXPECT.answer("run without a rule", 2, () -> lists.run(3));
        EXPECT.answer("over", 20 + 30 + 20, () -> lists.item(0, 2));
        EXPECT.answer("under", -(60 + 30 - 20), () -> lists.item(1, 2));
        EXPECT.sizes("fraction without a rule", lists, 90, 120, 70);
    }

    private static void smallStyles() {
        int[] inner = {10, 7, 5, 5};
        int[] units = {10, 10, 7, 5};
        for (int style = 0; style < 4; style++) {
            FormulaLists lists = parts();
            lists.style(style, false);
            lists.fraction(1, 2, -1);
            lists.run(3);
            int size = inner[style];
            int z = units[style];
            int gap = style == 0 ? 30 : z;
            int rest = z / 2 - z / 2 / 2;
            EXPECT.item("over in style " + style, lists, 0, 0, (8 * size + z - 7 * size) / 2,
                2 * z + z / 4 + gap + 2 * size, size, 7 * size, 3, 0, 0);
            EXPECT.item("under in style " + style, lists, 1, 0, z / 2, -(6 * size + gap + rest - 2 * z), size, 8 * size, 4, 1, 0);
            EXPECT.item("rule in style " + style, lists, 2, 1, 0, 2 * z - rest, z / 2, 8 * size + z, 0, 3, 0);
        }
    }

    private static void crampedParts() {
        for (int cramped = 0; cramped < 2; cramped++) {
            FormulaLists lists = new FormulaLists();
            for (int list = 1; list <= 4; list++) {
                lists.atom(8, 0);
                lists.atom(0, 0);
            }
            lists.atom(8, 0);
            lists.script(0, true, 3);
            lists.script(1, true, 4);
            lists.style(0, cramped == 1);
            lists.fraction(1, 2, 0);
            lists.run(5);
            int over = cramped == 1 ? 30 : 40;
            EXPECT.answer("over is cramped if it is", over, () -> lists.item(1, 2) - lists.item(0, 2));
            EXPECT.answer("under is cramped always", 30, () -> lists.item(3, 2) - lists.item(2, 2));
        }
    }

    /** Lists without anything: the fraction is Z wide, and its lines are its top and bottom. */
    private static void emptyLists() {
        FormulaLists lists = new FormulaLists();
        lists.atom(8, 0);
        lists.atom(8, 0);
        lists.atom(8, 0);
        lists.fraction(1, 2, 0);
        EXPECT.answer("nothing at all", 0, () -> lists.run(3));
        EXPECT.sizes("of empty lists", lists, 10, 50, 10);
        FormulaLists ruled = new FormulaLists();
        ruled.atom(8, 0);
        ruled.atom(8, 0);
        ruled.atom(8, 0);
        ruled.fraction(1, 2, -1);
        EXPECT.answer("a rule alone", 1, () -> ruled.run(3));
        EXPECT.item("the rule", ruled, 0, 1, 0, 17, 5, 10, 0, 0, 0);
        EXPECT.sizes("of empty lists with a rule", ruled, 10, 52, 13);
    }

    /** "each stands in the midst ((width - its width) / 2)": odd, so downward. */
    private static void midstIsDownward() {
        FormulaLists lists = parts();
        lists.style(1, false);
        lists.fraction(1, 2, 0);
        lists.run(3);
        // 49 and 56 wide in style 2; 66 in all: 17 / 2 and 10 / 2.
        EXPECT.answer("over", 8, () -> lists.item(0, 1));
        EXPECT.answer("under", 5, () -> lists.item(1, 1));
    }

    /** "NoSuchElementException" */
    private static void refusesListsThatAreNotThere() {
        FormulaLists lists = parts();
        for (int wrong : new int[] {-1, 4, 30, Integer.MIN_VALUE, Integer.MAX_VALUE}) {
            EXPECT.refusal("over " + wrong, NoSuchElementException.class, () -> lists.fraction(wrong, 1, 0));
            EXPECT.refusal("under " + wrong, NoSuchElementException.class, () -> lists.fraction(1, wrong, 0));
            EXPECT.refusal("both " + wrong, NoSuchElementException.class, () -> lists.fraction(wrong, wrong, 0));
        }
        EXPECT.answer("nothing was made", 2, () -> lists.fraction(1, 2, 0));
    }

    /** "IllegalArgumentException when rule is above 1000" */
    private static void refusesRulesAbove1000() {
        FormulaLists lists = parts();
        for (long rule : new long[] {1001, Integer.MAX_VALUE, 1L << 32, (1L << 32) + 5, (1L << 32) - 1, Long.MAX_VALUE}) {
            EXPECT.refusal("a rule of " + rule, IllegalArgumentException.class, () -> lists.fraction(1, 2, rule));
        }
        EXPECT.answer("1000 is not above 1000", 2, () -> lists.fraction(1, 2, 1000));
    }

    /** "IllegalStateException when they are one" */
    private static void refusesOneListTwice() {
        FormulaLists lists = parts();
        EXPECT.refusal("a free list twice", IllegalStateException.class, () -> lists.fraction(1, 1, 0));
        EXPECT.refusal("list 0 twice", IllegalStateException.class, () -> lists.fraction(0, 0, 0));
        EXPECT.refusal("the open list twice", IllegalStateException.class, () -> lists.fraction(3, 3, 0));
        EXPECT.answer("the list is free still", 2, () -> lists.fraction(1, 2, 0));
    }

    /** "one is not free" */
    private static void refusesListsThatAreNotFree() {
        FormulaLists lists = parts();
        EXPECT.refusal("list 0 over", IllegalStateException.class, () -> lists.fraction(0, 1, 0));
        EXPECT.refusal("list 0 under", IllegalStateException.class, () -> lists.fraction(1, 0, 0));
        EXPECT.answer("the refused calls changed nothing", 2, () -> lists.fraction(1, 2, 0));
        EXPECT.refusal("lists in use", IllegalStateException.class, () -> lists.fraction(1, 2, 0));
        lists.atom(8, 0);
        lists.atom(8, 0);
        EXPECT.refusal("the upper list is in use", IllegalStateException.class, () -> lists.fraction(1, 3, 0));
        EXPECT.refusal("the lower list is in use", IllegalStateException.class, () -> lists.fraction(3, 2, 0));
        EXPECT.answer("free ones", 3, () -> lists.fraction(4, 3, 0));
    }

    /** "or there would be a ring" */
    private static void refusesRings() {
        FormulaLists lists = parts();
        EXPECT.refusal("the open list over", IllegalStateException.class, () -> lists.fraction(3, 1, 0));
        EXPECT.refusal("the open list under", IllegalStateException.class, () -> lists.fraction(1, 3, 0));
        lists.script(0, true, 3);
        EXPECT.refusal("the open list is in the upper one", IllegalStateException.class, () -> lists.fraction(1, 2, 0));
        EXPECT.refusal("the open list is in the lower one", IllegalStateException.class, () -> lists.fraction(2, 1, 0));
        EXPECT.answer("a new list is no ring", 4, () -> lists.atom(8, 0));
        EXPECT.answer("the refused calls changed nothing", 2, () -> lists.fraction(1, 2, 0));
    }

    /** "UnsupportedOperationException": the 120th node is made, the next one is not. */
    private static void nodesEnd() {
        FormulaLists lists = parts();
        lists.atom(8, 0);
        lists.atom(8, 0);
        for (int node = 2; node < 119; node++) {
            lists.atom(0, 0);
        }
        EXPECT.answer("the 120th node", 119, () -> lists.fraction(1, 2, 0));
        EXPECT.refusal("one more", UnsupportedOperationException.class, () -> lists.fraction(3, 4, 0));
        EXPECT.answer("the upper list is still free", 1, () -> lists.script(2, true, 3));
        EXPECT.answer("the lower list is still free", 2, () -> lists.script(2, false, 4));
    }

    /** "it is the one that it names first" */
    private static void refusalsInTheirOrder() {
        FormulaLists lists = parts();
        EXPECT.refusal("no list, and the rule", NoSuchElementException.class, () -> lists.fraction(1, 9, 1001));
        EXPECT.refusal("no list, and list 0", NoSuchElementException.class, () -> lists.fraction(0, 9, 0));
        EXPECT.refusal("the rule, and they are one", IllegalArgumentException.class, () -> lists.fraction(1, 1, 1001));
        EXPECT.refusal("the rule, and a ring", IllegalArgumentException.class, () -> lists.fraction(3, 1, 1001));
        for (int node = 2; node < 120; node++) {
            lists.atom(0, 0);
        }
        EXPECT.refusal("no list goes first", NoSuchElementException.class, () -> lists.fraction(9, 9, 1001));
        EXPECT.refusal("no list, and 120 nodes", NoSuchElementException.class, () -> lists.fraction(9, 1, 0));
        EXPECT.refusal("then the rule", IllegalArgumentException.class, () -> lists.fraction(1, 1, 1001));
        EXPECT.refusal("the rule, and 120 nodes", IllegalArgumentException.class, () -> lists.fraction(1, 2, 1001));
        EXPECT.refusal("then the state", IllegalStateException.class, () -> lists.fraction(1, 1, 0));
        EXPECT.refusal("a list 0, and 120 nodes", IllegalStateException.class, () -> lists.fraction(0, 1, 0));
        EXPECT.refusal("a ring, and 120 nodes", IllegalStateException.class, () -> lists.fraction(3, 1, 0));
        EXPECT.refusal("then 120 nodes", UnsupportedOperationException.class, () -> lists.fraction(1, 2, 0));
        EXPECT.answer("list 1 is still free", 1, () -> lists.script(1, true, 1));
    }
}
