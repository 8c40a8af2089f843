import java.util.NoSuchElementException;

/** Promise 5: fences that grow by steps; unbalanced ones answer 0 and make nothing. */
public final class FenceTest {
    private static final Expect EXPECT = new Expect("FenceTest");

    public static void main(String[] args) {
        bothSides();
        oneSide();
        balance();
        steps();
        nineTenths();
        widths();
        smallStyles();
        insideStaysAsItIs();
        refusals();
        refusalsInTheirOrder();
        EXPECT.end();
    }

    /** List 1 with one sign (node 0), and list 2 open. */
    private static FormulaLists one(int sign) {
        FormulaLists lists = new FormulaLists();
        lists.atom(8, 0);
        lists.atom(0, sign);
        lists.atom(8, 0);
        return lists;
    }

    private static void bothSides() {
        FormulaLists lists = one(3);
        EXPECT.answer("fence(2, 1, 2) is node 1", 2, () -> lists.fence(2, 1, 2));
        EXPECT.answer("it is inner", 7, () -> lists.kind(1));
        EXPECT.answer("run(2)", 3, () -> lists.run(2));
        // The sign is 50 high and 20 deep: twice 40 must be covered, 72 at nine tenths: step 1, 100 high.
        EXPECT.item("left", lists, 0, 2, 0, 0, 1, 40, 2, 1, 0);
        EXPECT.item("sign", lists, 1, 0, 40, 0, 10, 70, 3, 0, 0);
        EXPECT.item("right", lists, 2, 2, 110, 0, 1, 40, 2, 1, 0);
        EXPECT.sizes("fence", lists, 150, 70, 30);
    }

    private static void oneSide() {
        FormulaLists left = one(0);
        EXPECT.answer("fence(3, 1, 0)", 2, () -> left.fence(3, 1, 0));
        EXPECT.answer("run: no item on the right", 2, () -> left.run(2));
        EXPECT.item("left", left, 0, 2, 0, 0, 0, 20, 3, 1, 0);
        EXPECT.sizes("fence on the left", left, 20 + 40 + 5, 50, 10);
        FormulaLists right = one(0);
        EXPECT.answer("fence(0, 1, 5)", 2, () -> right.fence(0, 1, 5));
        EXPECT.answer("run: no item on the left", 2, () -> right.run(2));
        EXPECT.item("sign", right, 0, 0, 5, 0, 10, 40, 0, 0, 0);
        EXPECT.item("right", right, 1, 2, 45, 0, 0, 40, 5, 1, 0);
    }

    private static void balance() {
        for (int left = 0; left <= 5; left++) {
            for (int right = 0; right <= 5; right++) {
                FormulaLists lists = one(0);
                int a = left;
                int b = right;
                boolean balanced = a == b && a != 0 || a == 0 && b != 0 || b == 0 && a != 0;
                EXPECT.answer("fence(" + a + ", 1, " + b + ")", balanced ? 2 : 0, () -> lists.fence(a, 1, b));
                EXPECT.answer("nodes behind it", balanced ? 2 : 1, () -> lists.atom(0, 0));
            }
        }
        FormulaLists again = one(0);
        again.fence(1, 1, 2);
        EXPECT.answer("the list of an unbalanced one is still free", 2, () -> again.fence(1, 1, 1));
    }

    /** A fence round an empty fraction whose rule is told: 20 + t / 2 + 30 high, t - t / 2 + 30 - 20 deep. */
    private static FormulaLists aroundRule(int rule) {
        FormulaLists lists = new FormulaLists();
        lists.atom(8, 0);
        lists.atom(8, 0);
        lists.atom(8, 0);
        lists.fraction(1, 2, rule);
        lists.atom(8, 0);
        lists.fence(1, 3, 1);
        lists.run(4);
        return lists;
    }

    private static void steps() {
        // What must be covered is t + 60 (t even); steps are 60, 100, 140, 180, 220 high.
        int[][] due = {{2, 0, 0}, {6, 0, 0}, {8, 1, 0}, {50, 1, 0}, {52, 2, 0}, {94, 2, 0}, {96, 3, 0}, {140, 3, 0},
            {142, 4, 0}, {184, 4, 0}, {186, 4, 1}, {1000, 4, 1}};
        for (int[] row : due) {
            FormulaLists lists = aroundRule(row[0]);
            EXPECT.answer("step round a rule of " + row[0], row[1], () -> lists.item(0, 3));
            EXPECT.answer("short round a rule of " + row[0], row[2], () -> lists.item(0, 7));
            EXPECT.answer("step on the right", row[1], () -> lists.item(2, 3));
            EXPECT.answer("short on the right", row[2], () -> lists.item(2, 7));
            EXPECT.answer("a rule is not short", 0, () -> lists.item(1, 7));
        }
    }

    private static void nineTenths() {
        // 200 must be covered (t is 140): 180 is just nine tenths.
        FormulaLists lists = aroundRule(140);
        EXPECT.sizes("just nine tenths", lists, 30 + 10 + 30, 120, 80);
        // t odd: below the axis there is one more than above it, 71 + 30, so 202 must be covered.
        FormulaLists odd = aroundRule(141);
        EXPECT.answer("just above", 4, () -> odd.item(0, 3));
    }

    private static void widths() {
        int[] due = {30, 40, 20, 30, 40};
        for (int delimiter = 1; delimiter <= 5; delimiter++) {
            FormulaLists lists = one(0);
            int number = delimiter;
            lists.fence(number, 1, number);
            lists.run(2);
            EXPECT.answer("width of " + number, due[number - 1], () -> lists.item(0, 4));
            EXPECT.answer("face of " + number, number, () -> lists.item(2, 5));
        }
    }

    private static void smallStyles() {
        int[] units = {10, 10, 7, 5};
        for (int style = 0; style < 4; style++) {
            FormulaLists lists = one(0);
            lists.style(style, false);
            lists.fence(1, 1, 0);
            lists.run(2);
            int z = units[style];
            EXPECT.item("left in style " + style, lists, 0, 2, 0, 0, 0, 3 * z, 1, 2, 0);
            EXPECT.item("sign in style " + style, lists, 1, 0, 3 * z, 0, z, 4 * z, 0, 0, 0);
            EXPECT.sizes("fence in style " + style, lists, 7 * z + z / 2, 5 * z, z);
        }
    }

    private static void insideStaysAsItIs() {
        FormulaLists lists = new FormulaLists();
        lists.atom(8, 0);
        lists.atom(1, 0);
        lists.atom(0, 0);
        lists.atom(8, 0);
        lists.atom(0, 0);
        lists.script(1, true, 2);
        lists.atom(8, 0);
        lists.style(0, true);
        lists.fence(1, 1, 1);
        lists.run(3);
        EXPECT.answer("an operator in a fence in display is big", 14, () -> lists.item(1, 3));
        EXPECT.answer("what is cramped stays so", 30, () -> lists.item(3, 2));
    }

    private static void refusals() {
        FormulaLists lists = one(0);
        EXPECT.refusal("no such list", NoSuchElementException.class, () -> lists.fence(1, 3, 1));
        EXPECT.refusal("a list below 0", NoSuchElementException.class, () -> lists.fence(1, -1, 1));
        EXPECT.refusal("delimiter 6", IllegalArgumentException.class, () -> lists.fence(6, 1, 1));
        EXPECT.refusal("delimiter 6 on the right", IllegalArgumentException.class, () -> lists.fence(1, 1, 6));
        EXPECT.refusal("delimiter -1", IllegalArgumentException.class, () -> lists.fence(-1, 1, 0));
        EXPECT.refusal("delimiter -1 on the right", IllegalArgumentException.class, () -> lists.fence(0, 1, -1));
        EXPECT.refusal("list 0", IllegalStateException.class, () -> lists.fence(1, 0, 1));
        EXPECT.refusal("the open list", IllegalStateException.class, () -> lists.fence(1, 2, 1));
        EXPECT.refusal("the open list in an unbalanced one", IllegalStateException.class, () -> lists.fence(0, 2, 0));
        lists.script(0, true, 2);
        EXPECT.refusal("the open list is in it", IllegalStateException.class, () -> lists.fence(1, 1, 1));
        lists.atom(8, 0);
        EXPECT.answer("a free list", 2, () -> lists.fence(1, 1, 1));
        EXPECT.refusal("a list in use", IllegalStateException.class, () -> lists.fence(1, 1, 1));
    }

    private static void refusalsInTheirOrder() {
        FormulaLists lists = one(0);
        for (int node = 1; node < 120; node++) {
            lists.atom(0, 0);
        }
        EXPECT.refusal("no list goes first", NoSuchElementException.class, () -> lists.fence(6, 9, 6));
        EXPECT.refusal("then the delimiters", IllegalArgumentException.class, () -> lists.fence(6, 2, 6));
        EXPECT.refusal("then the state", IllegalStateException.class, () -> lists.fence(1, 2, 1));
        EXPECT.refusal("then 120 nodes", UnsupportedOperationException.class, () -> lists.fence(1, 1, 1));
        EXPECT.refusal("before it is unbalanced", UnsupportedOperationException.class, () -> lists.fence(1, 1, 2));
        EXPECT.answer("list 1 is still free", 1, () -> lists.script(1, true, 1));
    }
}
