import java.util.NoSuchElementException;

/** Promise 4: fractions, with the usual rule, one of their own, or none. */
public final class FractionTest {
    private static final Expect EXPECT = new Expect("FractionTest");

    public static void main(String[] args) {
        usualRule();
        oddRule();
        noRule();
        smallStyles();
        crampedParts();
        refusals();
        refusalsInTheirOrder();
        EXPECT.end();
    }

    /** Lists 1 (sign 3) and 2 (sign 4), and list 3 open: nodes 0 and 1. */
    private static FormulaLists parts() {
        FormulaLists lists = new FormulaLists();
        lists.atom(8, 0);
        lists.atom(0, 3);
        lists.atom(8, 0);
        lists.atom(0, 4);
        lists.atom(8, 0);
        return lists;
    }

    private static void usualRule() {
        FormulaLists lists = parts();
        EXPECT.answer("fraction(1, 2, -1)", 2, () -> lists.fraction(1, 2, -1));
        EXPECT.answer("it is inner", 7, () -> lists.kind(2));
        EXPECT.answer("run(3)", 3, () -> lists.run(3));
        // Above: 70 wide, 50 high, 20 deep. Below: 80 wide, 60 high. t is 5, g 30, the axis 20.
        EXPECT.item("over", lists, 0, 0, 10, 20 + 2 + 30 + 20, 10, 70, 3, 0, 0);
        EXPECT.item("under", lists, 1, 0, 5, -(60 + 30 + 3 - 20), 10, 80, 4, 1, 0);
        EXPECT.item("rule", lists, 2, 1, 0, 17, 5, 90, 0, 2, 0);
        EXPECT.sizes("fraction", lists, 90, 122, 73);
        FormulaLists far = parts();
        far.fraction(1, 2, Long.MIN_VALUE);
        far.run(3);
        EXPECT.answer("any rule below 0 is the usual one", 5, () -> far.item(2, 3));
    }

    private static void oddRule() {
        FormulaLists lists = parts();
        lists.fraction(1, 2, 7);
        lists.run(3);
        EXPECT.answer("over: t / 2 is 3", 20 + 3 + 30 + 20, () -> lists.item(0, 2));
        EXPECT.answer("under: the rest is 4", -(60 + 30 + 4 - 20), () -> lists.item(1, 2));
        EXPECT.item("a rule of 7", lists, 2, 1, 0, 16, 7, 90, 0, 2, 0);
        FormulaLists thick = parts();
        EXPECT.answer("a rule of 1000", 2, () -> thick.fraction(1, 2, 1000));
        thick.run(3);
        EXPECT.item("a rule of 1000", thick, 2, 1, 0, -480, 1000, 90, 0, 2, 0);
    }

    private static void noRule() {
        FormulaLists lists = parts();
        lists.fraction(1, 2, 0);
        EXPECT.answer("run without a rule", 2, () -> lists.run(3));
        EXPECT.answer("over", 20 + 30 + 20, () -> lists.item(0, 2));
        EXPECT.answer("under", -(60 + 30 - 20), () -> lists.item(1, 2));
        EXPECT.sizes("fraction without a rule", lists, 90, 120, 70);
    }

    private static void smallStyles() {
        int[] inner = {10, 7, 5, 5};
        int[] units = {10, 10, 7, 5};
        for (int style = 0; style < 4; style++) {
            FormulaLists lists = parts();
            lists.style(style, false);
            lists.fraction(1, 2, -1);
            lists.run(3);
            int size = inner[style];
            int z = units[style];
            int gap = style == 0 ? 30 : z;
            int rest = z / 2 - z / 2 / 2;
            EXPECT.item("over in style " + style, lists, 0, 0, (8 * size + z - 7 * size) / 2,
                2 * z + z / 4 + gap + 2 * size, size, 7 * size, 3, 0, 0);
            EXPECT.item("under in style " + style, lists, 1, 0, z / 2, -(6 * size + gap + rest - 2 * z), size, 8 * size, 4, 1, 0);
            EXPECT.item("rule in style " + style, lists, 2, 1, 0, 2 * z - rest, z / 2, 8 * size + z, 0, 3, 0);
        }
    }

    private static void crampedParts() {
        for (int cramped = 0; cramped < 2; cramped++) {
            FormulaLists lists = new FormulaLists();
            for (int list = 1; list <= 4; list++) {
                lists.atom(8, 0);
                lists.atom(0, 0);
            }
            lists.atom(8, 0);
            lists.script(0, true, 3);
            lists.script(1, true, 4);
            lists.style(0, cramped == 1);
            lists.fraction(1, 2, 0);
            lists.run(5);
            int over = cramped == 1 ? 30 : 40;
            EXPECT.answer("over is cramped if it is", over, () -> lists.item(1, 2) - lists.item(0, 2));
            EXPECT.answer("under is cramped always", 30, () -> lists.item(3, 2) - lists.item(2, 2));
        }
    }

    private static void refusals() {
        FormulaLists lists = parts();
        EXPECT.refusal("no such upper list", NoSuchElementException.class, () -> lists.fraction(4, 1, 0));
        EXPECT.refusal("no such lower list", NoSuchElementException.class, () -> lists.fraction(1, 4, 0));
        EXPECT.refusal("a list below 0", NoSuchElementException.class, () -> lists.fraction(-1, 1, 0));
        EXPECT.refusal("a rule of 1001", IllegalArgumentException.class, () -> lists.fraction(1, 2, 1001));
        EXPECT.refusal("a rule beyond int", IllegalArgumentException.class, () -> lists.fraction(1, 2, 1L << 32));
        EXPECT.refusal("the greatest rule", IllegalArgumentException.class, () -> lists.fraction(1, 2, Long.MAX_VALUE));
        EXPECT.refusal("both are one", IllegalStateException.class, () -> lists.fraction(1, 1, 0));
        EXPECT.refusal("list 0 over", IllegalStateException.class, () -> lists.fraction(0, 1, 0));
        EXPECT.refusal("list 0 under", IllegalStateException.class, () -> lists.fraction(1, 0, 0));
        EXPECT.refusal("the open list over", IllegalStateException.class, () -> lists.fraction(3, 1, 0));
        EXPECT.refusal("the open list under", IllegalStateException.class, () -> lists.fraction(1, 3, 0));
        lists.script(0, true, 3);
        EXPECT.refusal("the open list is in the upper one", IllegalStateException.class, () -> lists.fraction(1, 2, 0));
        EXPECT.refusal("the open list is in the lower one", IllegalStateException.class, () -> lists.fraction(2, 1, 0));
        EXPECT.answer("a new list is no ring", 4, () -> lists.atom(8, 0));
        EXPECT.answer("the refused calls changed nothing", 2, () -> lists.fraction(1, 2, 0));
        EXPECT.refusal("lists in use", IllegalStateException.class, () -> lists.fraction(1, 2, 0));
        lists.atom(8, 0);
        lists.atom(8, 0);
        EXPECT.refusal("the upper list is in use", IllegalStateException.class, () -> lists.fraction(1, 5, 0));
        EXPECT.refusal("the lower list is in use", IllegalStateException.class, () -> lists.fraction(5, 2, 0));
    }

    private static void refusalsInTheirOrder() {
        FormulaLists lists = parts();
        for (int node = 2; node < 120; node++) {
            lists.atom(0, 0);
        }
        EXPECT.refusal("no list goes first", NoSuchElementException.class, () -> lists.fraction(9, 9, 1001));
        EXPECT.refusal("then the rule", IllegalArgumentException.class, () -> lists.fraction(1, 1, 1001));
        EXPECT.refusal("then the state", IllegalStateException.class, () -> lists.fraction(1, 1, 0));
        EXPECT.refusal("then 120 nodes", UnsupportedOperationException.class, () -> lists.fraction(1, 2, 0));
        EXPECT.answer("list 1 is still free", 1, () -> lists.script(1, true, 1));
    }
}
