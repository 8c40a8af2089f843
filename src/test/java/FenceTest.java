import java.util.NoSuchElementException;

/** Promise 5: fences that grow by steps; unbalanced ones answer 0 and make nothing. */
public final class FenceTest {
    private static final Expect EXPECT = new Expect("FenceTest");

    public static void main(String[] args) {
        bothSides();
        oneSide();
        balance();
        steps();
        nineTenths();
        widths();
        smallStyles();
        insideStaysAsItIs();
        emptyList();
        coversTheGreaterSideOfTheAxis();
        delimitersAlikeInStep();
        refusesListsThatAreNotThere();
        refusesOtherDelimiters();
        refusesListsThatAreNotFree();
        refusesRings();
        nodesEnd();
        refusalsInTheirOrder();
        EXPECT.end();
    }

    /** List 1 with one sign (node 0), and list 2 open. */
    private static FormulaLists one(int sign) {
        FormulaLists lists = new FormulaLists();
        lists.atom(8, 0);
        lists.atom(0, sign);
        lists.atom(8, 0);
        return lists;
    }

    private static void bothSides() {
        FormulaLists lists = one(3);
        EXPECT.answer("fence(2, 1, 2) is node 1", 2, () -> lists.fence(2, 1, 2));
        EXPECT.answer("it is inner", 7, () -> lists.kind(1));
        EXPECT.answer("run(2)", 3, () -> lists.run(2));
        // The sign is 50 high and 20 deep: twice 40 must be covered, 72 at nine tenths: step 1, 100 high.
        EXPECT.item("left", lists, 0, 2, 0, 0, 1, 40, 2, 1, 0);
        EXPECT.item("sign", lists, 1, 0, 40, 0, 10, 70, 3, 0, 0);
        EXPECT.item("right", lists, 2, 2, 110, 0, 1, 40, 2, 1, 0);
        EXPECT.sizes("fence", lists, 150, 70, 30);
    }

    /** "0 has no item, and width Z / 2" */
    private static void oneSide() {
        FormulaLists left = one(0);
        EXPECT.answer("fence(3, 1, 0)", 2, () -> left.fence(3, 1, 0));
        EXPECT.answer("run: no item on the right", 2, () -> left.run(2));
        EXPECT.item("left", left, 0, 2, 0, 0, 0, 20, 3, 1, 0);
        EXPECT.sizes("fence on the left", left, 20 + 40 + 5, 50, 10);
        FormulaLists right = one(0);
        EXPECT.answer("fence(0, 1, 5)", 2, () -> right.fence(0, 1, 5));
        EXPECT.answer("run: no item on the left", 2, () -> right.run(2));
        EXPECT.item("sign", right, 0, 0, 5, 0, 10, 40, 0, 0, 0);
        EXPECT.item("right", right, 1, 2, 45, 0, 0, 40, 5, 1, 0);
    }

    /** "0 when it is UNBALANCED: unless both delimiters are the same and not 0, or just one is 0" */
    private static void balance() {
        for (int left = 0; left <= 5; left++) {
            for (int right = 0; right <= 5; right++) {
                FormulaLists lists = one(0);
                int a = left;
                int b = right;
                boolean balanced = a == b && a != 0 || a == 0 && b != 0 || b == 0 && a != 0;
                EXPECT.answer("fence(" + a + ", 1, " + b + ")", balanced ? 2 : 0, () -> lists.fence(a, 1, b));
                EXPECT.answer("nodes behind it", balanced ? 2 : 1, () -> lists.atom(0, 0));
            }
        }
        FormulaLists again = one(0);
        EXPECT.answer("unlike delimiters", 0, () -> again.fence(1, 1, 2));
        EXPECT.answer("none on either side", 0, () -> again.fence(0, 1, 0));
        EXPECT.answer("nothing is laid out", 0, () -> again.run(2));
        EXPECT.answer("the list of an unbalanced one is still free", 2, () -> again.fence(1, 1, 1));
    }

    /** A fence round an empty fraction whose rule is told: 20 + t / 2 + 30 high, t - t / 2 + 30 - 20 deep. */
    private static FormulaLists aroundRule(int rule) {
        FormulaLists lists = new FormulaLists();
        lists.atom(8, 0);
        lists.atom(8, 0);
        lists.atom(8, 0);
        lists.fraction(1, 2, rule);
        lists.atom(8, 0);
        lists.fence(1, 3, 1);
        lists.run(4);
        return lists;
    }

    /** "the first one that is at least nine tenths of that is taken, the last one if there is none (SHORT)" */
    private static void steps() {
        // What must be covered is t + 60 (t even); steps are 60, 100, 140, 180, 220 high.
        int[][] due = {{2, 0, 0}, {6, 0, 0}, {8, 1, 0}, {50, 1, 0}, {52, 2, 0}, {94, 2, 0}, {96, 3, 0}, {140, 3, 0},
            {142, 4, 0}, {184, 4, 0}, {186, 4, 1}, {1000, 4, 1}};
        for (int[] row : due) {
            FormulaLists lists = aroundRule(row[0]);
            EXPECT.answer("step round a rule of " + row[0], row[1], () -> lists.item(0, 3));
            EXPECT.answer("short round a rule of " + row[0], row[2], () -> lists.item(0, 7));
            EXPECT.answer("step on the right", row[1], () -> lists.item(2, 3));
            EXPECT.answer("short on the right", row[2], () -> lists.item(2, 7));
            EXPECT.answer("a rule is not short", 0, () -> lists.item(1, 7));
        }
    }

    /** "10 times it is at least 9 times what must be" */
    private static void nineTenths() {
        // 200 must be covered (t is 140): 180 is just nine tenths.
        FormulaLists lists = aroundRule(140);
        EXPECT.sizes("just nine tenths", lists, 30 + 10 + 30, 120, 80);
        // t odd: below the axis there is one more than above it, 71 + 30, so 202 must be covered.
        FormulaLists odd = aroundRule(141);
        EXPECT.answer("just above", 4, () -> odd.item(0, 3));
    }

    private static void widths() {
        int[] due = {30, 40, 20, 30, 40};
        for (int delimiter = 1; delimiter <= 5; delimiter++) {
            FormulaLists lists = one(0);
            int number = delimiter;
            lists.fence(number, 1, number);
            lists.run(2);
            EXPECT.answer("width of " + number, due[number - 1], () -> lists.item(0, 4));
            EXPECT.answer("face of " + number, number, () -> lists.item(2, 5));
        }
    }

    private static void smallStyles() {
        int[] units = {10, 10, 7, 5};
        for (int style = 0; style < 4; style++) {
            FormulaLists lists = one(0);
            lists.style(style, false);
            lists.fence(1, 1, 0);
            lists.run(2);
            int z = units[style];
            EXPECT.item("left in style " + style, lists, 0, 2, 0, 0, 0, 3 * z, 1, 2, 0);
            EXPECT.item("sign in style " + style, lists, 1, 0, 3 * z, 0, z, 4 * z, 0, 0, 0);
            EXPECT.sizes("fence in style " + style, lists, 7 * z + z / 2, 5 * z, z);
        }
    }

    private static void insideStaysAsItIs() {
        FormulaLists lists = new FormulaLists();
        lists.atom(8, 0);
        lists.atom(1, 0);
        lists.atom(0, 0);
        lists.atom(8, 0);
        lists.atom(0, 0);
        lists.script(1, true, 2);
        lists.atom(8, 0);
        lists.style(0, true);
        lists.fence(1, 1, 1);
        lists.run(3);
        EXPECT.answer("an operator in a fence in display is big", 14, () -> lists.item(1, 3));
        EXPECT.answer("what is cramped stays so", 30, () -> lists.item(3, 2));
    }

    /** Twice the axis must be covered round nothing, so that the least step does. */
    private static void emptyList() {
        FormulaLists lists = new FormulaLists();
        lists.atom(8, 0);
        lists.atom(8, 0);
        EXPECT.answer("round nothing", 1, () -> lists.fence(1, 1, 1));
        EXPECT.answer("two delimiters", 2, () -> lists.run(2));
        EXPECT.item("left", lists, 0, 2, 0, 0, 0, 30, 1, 0, 0);
        EXPECT.item("right", lists, 1, 2, 30, 0, 0, 30, 1, 0, 0);
        EXPECT.sizes("round nothing", lists, 60, 50, 10);
    }

    /** "twice the greater one of (height less the axis) and (depth and the axis)" */
    private static void coversTheGreaterSideOfTheAxis() {
        FormulaLists deep = new FormulaLists();
        deep.atom(8, 0);
        deep.atom(0, 3);
        deep.atom(8, 0);
        deep.atom(0, 3);
        deep.script(0, false, 2);
        deep.atom(8, 0);
        deep.fence(1, 1, 1);
        deep.run(3);
        // 50 high and 30 + 14 deep: 30 above the axis, 64 below it: 128 must be covered, 115.2 at nine tenths.
        EXPECT.answer("by the depth", 2, () -> deep.item(0, 3));
        FormulaLists high = new FormulaLists();
        high.atom(8, 0);
        high.atom(0, 0);
        high.atom(8, 0);
        high.atom(0, 1);
        high.script(0, true, 2);
        high.atom(8, 0);
        high.fence(1, 1, 1);
        high.run(3);
        // 40 + 42 high and not deep: 62 above the axis: 124 must be covered, 111.6 at nine tenths.
        EXPECT.answer("by the height", 2, () -> high.item(0, 3));
    }

    /** The step is told by the list alone, so a missing one on the other side changes nothing. */
    private static void delimitersAlikeInStep() {
        for (int[] sides : new int[][] {{4, 4}, {4, 0}, {0, 4}}) {
            FormulaLists lists = one(3);
            lists.fence(sides[0], 1, sides[1]);
            lists.run(2);
            int item = sides[0] == 0 ? 1 : 0;
            EXPECT.answer("step of " + sides[0] + ", " + sides[1], 1, () -> lists.item(item, 3));
            EXPECT.answer("depth of " + sides[0] + ", " + sides[1], 30, () -> lists.item(-1, 2));
        }
    }

    /** "NoSuchElementException" */
    private static void refusesListsThatAreNotThere() {
        FormulaLists lists = one(0);
        for (int wrong : new int[] {-1, 3, 30, Integer.MIN_VALUE, Integer.MAX_VALUE}) {
            EXPECT.refusal("no list " + wrong, NoSuchElementException.class, () -> lists.fence(1, wrong, 1));
            EXPECT.refusal("no list " + wrong + ", unbalanced", NoSuchElementException.class, () -> lists.fence(0, wrong, 0));
        }
        EXPECT.answer("nothing was made", 2, () -> lists.fence(1, 1, 1));
    }

    /** "IllegalArgumentException when one is not 0 .. 5" */
    private static void refusesOtherDelimiters() {
        FormulaLists lists = one(0);
        for (int wrong : new int[] {-1, 6, Integer.MIN_VALUE, Integer.MAX_VALUE}) {
            EXPECT.refusal(wrong + " on the left", IllegalArgumentException.class, () -> lists.fence(wrong, 1, 0));
            EXPECT.refusal(wrong + " on the right", IllegalArgumentException.class, () -> lists.fence(0, 1, wrong));
            EXPECT.refusal(wrong + " on both sides", IllegalArgumentException.class, () -> lists.fence(wrong, 1, wrong));
            EXPECT.refusal(wrong + " and 5", IllegalArgumentException.class, () -> lists.fence(wrong, 1, 5));
        }
        EXPECT.answer("nothing was made", 2, () -> lists.fence(5, 1, 5));
    }

    /** "IllegalStateException": the list is not free. */
    private static void refusesListsThatAreNotFree() {
        FormulaLists lists = one(0);
        EXPECT.refusal("list 0", IllegalStateException.class, () -> lists.fence(1, 0, 1));
        EXPECT.refusal("list 0, unbalanced", IllegalStateException.class, () -> lists.fence(1, 0, 2));
        EXPECT.answer("a free list", 2, () -> lists.fence(1, 1, 1));
        EXPECT.refusal("a list in use", IllegalStateException.class, () -> lists.fence(1, 1, 1));
        EXPECT.refusal("a list in use, unbalanced", IllegalStateException.class, () -> lists.fence(0, 1, 0));
        EXPECT.answer("one fence was made", 2, () -> lists.atom(0, 0));
    }

    /** "IllegalStateException": there would be a ring. */
    private static void refusesRings() {
        FormulaLists lists = one(0);
        EXPECT.refusal("the open list", IllegalStateException.class, () -> lists.fence(1, 2, 1));
        EXPECT.refusal("the open list, unbalanced", IllegalStateException.class, () -> lists.fence(0, 2, 0));
        lists.script(0, true, 2);
        EXPECT.refusal("the open list is in it", IllegalStateException.class, () -> lists.fence(1, 1, 1));
        EXPECT.refusal("the open list is in it, unbalanced", IllegalStateException.class, () -> lists.fence(3, 1, 4));
        lists.atom(8, 0);
        EXPECT.answer("from another list", 2, () -> lists.fence(1, 1, 1));
    }

    /** "UnsupportedOperationException": the 120th node is made, the next one is not. */
    private static void nodesEnd() {
        FormulaLists lists = one(0);
        lists.atom(8, 0);
        for (int node = 1; node < 119; node++) {
            lists.atom(0, 0);
        }
        EXPECT.answer("an unbalanced one is not the 120th node", 0, () -> lists.fence(1, 1, 2));
        EXPECT.answer("the 120th node", 120, () -> lists.fence(1, 1, 1));
        EXPECT.refusal("one more", UnsupportedOperationException.class, () -> lists.fence(1, 2, 1));
        EXPECT.refusal("one more, unbalanced", UnsupportedOperationException.class, () -> lists.fence(1, 2, 2));
        EXPECT.answer("the list is still free", 1, () -> lists.script(1, true, 2));
    }

    /** "it is the one that it names first" */
    private static void refusalsInTheirOrder() {
        FormulaLists lists = one(0);
        EXPECT.refusal("no list, and a delimiter", NoSuchElementException.class, () -> lists.fence(6, 9, 1));
        EXPECT.refusal("a delimiter, and list 0", IllegalArgumentException.class, () -> lists.fence(6, 0, 6));
        EXPECT.refusal("a delimiter, and a ring", IllegalArgumentException.class, () -> lists.fence(0, 2, -1));
        for (int node = 1; node < 120; node++) {
            lists.atom(0, 0);
        }
        EXPECT.refusal("no list goes first", NoSuchElementException.class, () -> lists.fence(6, 9, 6));
        EXPECT.refusal("no list, and 120 nodes", NoSuchElementException.class, () -> lists.fence(1, 9, 1));
        EXPECT.refusal("then the delimiters", IllegalArgumentException.class, () -> lists.fence(6, 2, 6));
        EXPECT.refusal("a delimiter, and 120 nodes", IllegalArgumentException.class, () -> lists.fence(1, 1, 6));
        EXPECT.refusal("then the state", IllegalStateException.class, () -> lists.fence(1, 2, 1));
        EXPECT.refusal("list 0, and 120 nodes", IllegalStateException.class, () -> lists.fence(1, 0, 1));
        EXPECT.refusal("then 120 nodes", UnsupportedOperationException.class, () -> lists.fence(1, 1, 1));
        EXPECT.refusal("before it is unbalanced", UnsupportedOperationException.class, () -> lists.fence(1, 1, 2));
        EXPECT.answer("list 1 is still free", 1, () -> lists.script(1, true, 1));
    }
}
