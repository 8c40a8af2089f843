import java.util.NoSuchElementException;

/** Promise 3: scripts come to an atom, beside it or as limits, and what may not come in is refused. */
public final class ScriptTest {
    private static final Expect EXPECT = new Expect("ScriptTest");

    public static void main(String[] args) {
        countsScripts();
        refusesWhatIsNotThere();
        refusesASecondOne();
        refusesListsThatAreNotFree();
        refusesRings();
        refusalsInTheirOrder();
        refusalsChangeNothing();
        upperAlone();
        lowerAlone();
        upperOfTallNucleus();
        upperIsRaisedByItsDepth();
        lowerIsPushedDown();
        justZApart();
        crampedUpperIsLower();
        limits();
        oneLimit();
        wideLimits();
        operatorInTextHasNoLimits();
        stylesOfScripts();
        smallNucleus();
        emptyScripts();
        emptyLimits();
        scriptsOfStructures();
        EXPECT.end();
    }

    private static FormulaLists nucleus(int kind, int sign) {
        FormulaLists lists = new FormulaLists();
        lists.atom(kind, sign);
        return lists;
    }

    /** A new list of one ordinary sign becomes a script of node 0. */
    private static void addScript(FormulaLists lists, boolean upper, int sign) {
        int list = lists.atom(8, 0);
        lists.atom(0, sign);
        lists.script(0, upper, list);
    }

    /** "how many scripts the atom has": 1, then 2, in either order. */
    private static void countsScripts() {
        for (boolean first : new boolean[] {false, true}) {
            FormulaLists lists = nucleus(0, 0);
            lists.atom(8, 0);
            lists.atom(8, 0);
            EXPECT.answer("the first one", 1, () -> lists.script(0, first, 2));
            EXPECT.answer("then the other", 2, () -> lists.script(0, !first, 1));
        }
    }

    /** Nodes: 0 a sign, 1 a style; lists 1 and 2, both empty. */
    private static FormulaLists signAndStyle() {
        FormulaLists lists = nucleus(0, 0);
        lists.style(1, false);
        lists.atom(8, 0);
        lists.atom(8, 0);
        return lists;
    }

    /** "NoSuchElementException (also for a style node)" */
    private static void refusesWhatIsNotThere() {
        FormulaLists lists = signAndStyle();
        for (int wrong : new int[] {-1, 2, 120, Integer.MIN_VALUE, Integer.MAX_VALUE}) {
            EXPECT.refusal("no node " + wrong, NoSuchElementException.class, () -> lists.script(wrong, true, 1));
        }
        EXPECT.refusal("a style node", NoSuchElementException.class, () -> lists.script(1, true, 1));
        EXPECT.refusal("a style node, lower", NoSuchElementException.class, () -> lists.script(1, false, 1));
        for (int wrong : new int[] {-1, 3, 30, Integer.MIN_VALUE, Integer.MAX_VALUE}) {
            EXPECT.refusal("no list " + wrong, NoSuchElementException.class, () -> lists.script(0, true, wrong));
        }
        EXPECT.answer("after refusals", 1, () -> lists.script(0, true, 1));
    }

    /** "IllegalStateException when it has one there": an upper one is none below, and the other way round. */
    private static void refusesASecondOne() {
        for (boolean upper : new boolean[] {false, true}) {
            FormulaLists lists = signAndStyle();
            lists.atom(8, 0);
            lists.script(0, upper, 1);
            EXPECT.refusal("a second one", IllegalStateException.class, () -> lists.script(0, upper, 2));
            EXPECT.answer("on the other side", 2, () -> lists.script(0, !upper, 2));
            EXPECT.refusal("a third one", IllegalStateException.class, () -> lists.script(0, upper, 3));
            EXPECT.refusal("a third one on the other side", IllegalStateException.class, () -> lists.script(0, !upper, 3));
        }
    }

    /** "the list is not free" */
    private static void refusesListsThatAreNotFree() {
        FormulaLists lists = signAndStyle();
        EXPECT.refusal("list 0", IllegalStateException.class, () -> lists.script(0, true, 0));
        lists.script(0, true, 1);
        EXPECT.refusal("a list of the same atom", IllegalStateException.class, () -> lists.script(0, false, 1));
        lists.atom(0, 0);
        EXPECT.refusal("a list of another atom", IllegalStateException.class, () -> lists.script(2, false, 1));
        EXPECT.refusal("list 0 from another list", IllegalStateException.class, () -> lists.script(2, true, 0));
    }

    /** "it is the one that it names first" */
    private static void refusalsInTheirOrder() {
        FormulaLists lists = signAndStyle();
        lists.script(0, true, 1);
        EXPECT.refusal("no list, and one is there", NoSuchElementException.class, () -> lists.script(0, true, 9));
        EXPECT.refusal("no node, and list 0", NoSuchElementException.class, () -> lists.script(9, true, 0));
        EXPECT.refusal("a style node, and a list in use", NoSuchElementException.class, () -> lists.script(1, true, 1));
        EXPECT.refusal("no node, and no list", NoSuchElementException.class, () -> lists.script(-1, true, -1));
    }

    /** "A call that throws changes nothing" */
    private static void refusalsChangeNothing() {
        FormulaLists lists = signAndStyle();
        lists.script(0, true, 1);
        EXPECT.refusal("a second one", IllegalStateException.class, () -> lists.script(0, true, 2));
        EXPECT.refusal("list 0", IllegalStateException.class, () -> lists.script(0, false, 0));
        lists.atom(0, 5);
        EXPECT.answer("the list of a refused call is not laid out", 1, () -> lists.run(0));
        EXPECT.answer("and is free", 2, () -> lists.script(0, false, 2));
        EXPECT.answer("then it is laid out", 2, () -> lists.run(0));
    }

    /** "or there would be a ring" */
    private static void refusesRings() {
        FormulaLists lists = new FormulaLists();
        lists.atom(8, 0);
        lists.atom(0, 1);
        EXPECT.refusal("the atom is in the list", IllegalStateException.class, () -> lists.script(0, true, 1));
        lists.atom(8, 0);
        lists.atom(0, 2);
        EXPECT.answer("list 2 into node 0", 1, () -> lists.script(0, true, 2));
        EXPECT.refusal("the atom is in a list of an atom of the list", IllegalStateException.class, () -> lists.script(1, true, 1));
        lists.atom(8, 0);
        lists.atom(0, 3);
        EXPECT.answer("list 3 into node 1", 1, () -> lists.script(1, false, 3));
        EXPECT.refusal("and so on", IllegalStateException.class, () -> lists.script(2, false, 1));
        lists.atom(8, 0);
        lists.atom(0, 4);
        EXPECT.answer("the whole of list 1 into another", 1, () -> lists.script(3, false, 1));
        EXPECT.answer("run(4)", 4, () -> lists.run(4));
    }

    private static void upperAlone() {
        FormulaLists lists = nucleus(0, 1);
        addScript(lists, true, 0);
        EXPECT.answer("run of an upper one", 2, () -> lists.run(0));
        // Nucleus 50 wide, 60 high; the upper one 28 wide, 35 high, at 4 Z.
        EXPECT.item("the nucleus", lists, 0, 0, 0, 0, 10, 50, 1, 0, 0);
        EXPECT.item("the upper one", lists, 1, 0, 50, 40, 7, 28, 0, 1, 0);
        EXPECT.sizes("with an upper one", lists, 50 + 28 + 5, 75, 0);
    }

    private static void lowerAlone() {
        FormulaLists lists = nucleus(0, 3);
        addScript(lists, false, 0);
        lists.run(0);
        // The nucleus is 20 deep: depth and Z is more than 2 Z.
        EXPECT.item("the lower one of a deep nucleus", lists, 1, 0, 70, -30, 7, 28, 0, 1, 0);
        EXPECT.sizes("with a lower one", lists, 70 + 28 + 5, 50, 30);
        FormulaLists shallow = nucleus(0, 0);
        addScript(shallow, false, 0);
        shallow.run(0);
        EXPECT.answer("the lower one of a shallow nucleus is at 2 Z", -20, () -> shallow.item(1, 2));
        FormulaLists high = nucleus(0, 0);
        int over = high.atom(8, 0);
        int under = high.atom(8, 0);
        int lower = high.atom(8, 0);
        high.fraction(over, under, 200);
        high.script(0, false, lower);
        high.run(0);
        // The fraction in style 2: axis 14, t / 2 is 100, g 7: 121 high, less 40.
        EXPECT.answer("a high lower one is pushed down", 14 - 100 - 81, () -> high.item(1, 2));
    }

    private static void upperOfTallNucleus() {
        FormulaLists lists = new FormulaLists();
        lists.style(1, false);
        int over = lists.atom(8, 0);
        lists.atom(0, 0);
        int under = lists.atom(8, 0);
        lists.atom(0, 0);
        int home = lists.atom(8, 0);
        int fraction = lists.fraction(over, under, 100);
        int upper = lists.atom(8, 0);
        lists.atom(0, 0);
        lists.script(fraction, true, upper);
        lists.run(home);
        // In display: upper line 20 + 50 + 30, its top 50 above that: 150 high, less 2 Z.
        EXPECT.answer("the upper one of a tall nucleus", 130, () -> lists.item(3, 2));
    }

    private static void upperIsRaisedByItsDepth() {
        FormulaLists lists = nucleus(0, 0);
        int over = lists.atom(8, 0);
        int under = lists.atom(8, 0);
        int upper = lists.atom(8, 0);
        lists.fraction(over, under, 200);
        lists.script(0, true, upper);
        lists.run(0);
        // The fraction is 100 + 7 - 14 = 93 deep: its line is at 93 + Z, its rule 86 below.
        EXPECT.answer("a deep upper one is raised", 93 + 10 - 86, () -> lists.item(1, 2));
    }

    private static void lowerIsPushedDown() {
        FormulaLists lists = nucleus(0, 0);
        addScript(lists, true, 3);
        addScript(lists, false, 2);
        lists.run(0);
        // Bottom of the upper one: 40 - 14 = 26. Top of the lower one at 2 Z: -20 + 49 = 29: 13 are missing.
        EXPECT.answer("the upper one stays", 40, () -> lists.item(1, 2));
        EXPECT.answer("the lower one goes down", -33, () -> lists.item(2, 2));
        EXPECT.sizes("with both", lists, 40 + 49 + 5, 75, 33);
        FormulaLists just = nucleus(0, 0);
        addScript(just, true, 3);
        addScript(just, false, 0);
        just.run(0);
        // The top of the lower one is at 15, 11 below the bottom of the upper one.
        EXPECT.answer("the lower one need not go down", -20, () -> just.item(2, 2));
    }

    /** "if the upper one's bottom is less than Z above the lower one's top" */
    private static void justZApart() {
        int[][] due = {{30, -20}, {32, -21}, {50, -30}};
        for (int[] row : due) {
            FormulaLists lists = nucleus(0, 0);
            lists.atom(8, 0);
            lists.atom(8, 0);
            int upper = lists.atom(8, 0);
            lists.fraction(1, 2, row[0]);
            lists.script(0, true, upper);
            addScript(lists, false, 1);
            lists.run(0);
            // The upper one is t / 2 - 7 deep, its bottom 47 - t / 2; the top of the lower one at 2 Z is at 22.
            EXPECT.answer("the lower one, rule " + row[0], row[1], () -> lists.item(2, 2));
            EXPECT.answer("the upper one stays, rule " + row[0], 40 + 14 - row[0] / 2, () -> lists.item(1, 2));
        }
    }

    /** "the nucleus's height less 2 Z, 4 Z (cramped 3 Z)": nuclei 5, 6 and 7 Z high. */
    private static void crampedUpperIsLower() {
        int[][] due = {{40, 40, 50}, {30, 40, 50}};
        for (int cramped = 0; cramped < 2; cramped++) {
            for (int sign = 0; sign < 3; sign++) {
                FormulaLists lists = new FormulaLists();
                lists.style(1, cramped == 1);
                lists.atom(0, sign);
                int upper = lists.atom(8, 0);
                lists.atom(0, 0);
                lists.script(1, true, upper);
                lists.run(0);
                EXPECT.answer("sign " + sign + ", cramped " + cramped, due[cramped][sign], () -> lists.item(1, 2));
            }
        }
    }

    private static void limits() {
        FormulaLists lists = nucleus(1, 3);
        addScript(lists, true, 3);
        addScript(lists, false, 2);
        EXPECT.answer("run of limits", 3, () -> lists.run(0));
        // Nucleus: 98 wide, 70 high, 28 deep. Upper: 49 wide, 35 high, 14 deep. Lower: 42 wide, 49 high.
        EXPECT.item("the operator", lists, 0, 0, 0, 0, 14, 98, 3, 0, 0);
        EXPECT.item("the upper limit", lists, 1, 0, 24, 70 + 10 + 14, 7, 49, 3, 1, 0);
        EXPECT.item("the lower limit", lists, 2, 0, 28, -(28 + 10 + 49), 7, 42, 2, 2, 0);
        EXPECT.sizes("with limits", lists, 98, 94 + 35, 87);
    }

    private static void oneLimit() {
        FormulaLists upper = nucleus(1, 3);
        addScript(upper, true, 0);
        upper.run(0);
        EXPECT.answer("an upper limit alone", 70 + 10, () -> upper.item(1, 2));
        EXPECT.sizes("with an upper limit", upper, 98, 80 + 35, 28);
        FormulaLists lower = nucleus(1, 3);
        addScript(lower, false, 3);
        lower.run(0);
        EXPECT.item("a lower limit alone", lower, 1, 0, 24, -(28 + 10 + 35), 7, 49, 3, 1, 0);
        EXPECT.sizes("with a lower limit", lower, 98, 70, 73 + 14);
    }

    private static void wideLimits() {
        FormulaLists lists = nucleus(1, 0);
        int upper = lists.atom(8, 0);
        lists.atom(0, 4);
        lists.atom(0, 3);
        lists.script(0, true, upper);
        lists.run(0);
        // 56 + 49 wide above, the operator 56 wide: (105 - 56) / 2 is 24.
        EXPECT.answer("the operator stands in the midst", 24, () -> lists.item(0, 1));
        EXPECT.answer("the limit begins at 0", 0, () -> lists.item(1, 1));
        EXPECT.sizes("with a wide limit", lists, 105, 70 + 10 + 14 + 42, 0);
    }

    private static void operatorInTextHasNoLimits() {
        FormulaLists lists = new FormulaLists();
        lists.style(1, false);
        lists.atom(1, 0);
        int upper = lists.atom(8, 0);
        lists.atom(0, 0);
        lists.script(1, true, upper);
        lists.run(0);
        EXPECT.item("the operator in text", lists, 0, 0, 0, 0, 10, 40, 0, 1, 0);
        EXPECT.item("its script", lists, 1, 0, 40, 40, 7, 28, 0, 2, 0);
        EXPECT.sizes("an operator with a script in text", lists, 73, 75, 0);
    }

    private static void stylesOfScripts() {
        int[] sizes = {7, 7, 5, 5};
        int[] units = {10, 10, 7, 5};
        for (int style = 0; style < 4; style++) {
            FormulaLists lists = new FormulaLists();
            lists.style(style, false);
            lists.atom(0, 0);
            int upper = lists.atom(8, 0);
            lists.atom(0, 0);
            int lower = lists.atom(8, 0);
            lists.atom(0, 0);
            lists.script(1, true, upper);
            lists.script(1, false, lower);
            lists.run(0);
            int z = units[style];
            EXPECT.item("upper in style " + style, lists, 1, 0, 4 * z, 4 * z, sizes[style], 4 * sizes[style], 0, 2, 0);
            EXPECT.answer("lower in style " + style, sizes[style], () -> lists.item(2, 3));
            EXPECT.answer("width in style " + style, 4 * z + 4 * sizes[style] + z / 2, () -> lists.item(-1, 0));
        }
        FormulaLists cramped = nucleus(0, 0);
        int upper = cramped.atom(8, 0);
        int above = cramped.atom(0, 0);
        int lower = cramped.atom(8, 0);
        int below = cramped.atom(0, 0);
        int aboveAbove = cramped.atom(8, 0);
        cramped.atom(0, 0);
        int aboveBelow = cramped.atom(8, 0);
        cramped.atom(0, 0);
        cramped.script(above, true, aboveAbove);
        cramped.script(below, true, aboveBelow);
        cramped.script(0, true, upper);
        cramped.script(0, false, lower);
        cramped.run(0);
        EXPECT.answer("upper ones are not cramped", 28, () -> cramped.item(2, 2) - cramped.item(1, 2));
        EXPECT.answer("lower ones are cramped", 21, () -> cramped.item(4, 2) - cramped.item(3, 2));
    }

    /** "4 Z (cramped 3 Z)" above a nucleus so low that nothing else tells the line: an empty matrix. */
    private static void smallNucleus() {
        for (int cramped = 0; cramped < 2; cramped++) {
            FormulaLists lists = new FormulaLists();
            lists.atom(8, 0);
            lists.atom(8, 0);
            lists.style(1, cramped == 1);
            lists.matrix(1, 1);
            int upper = lists.atom(8, 0);
            lists.atom(0, 0);
            lists.script(1, true, upper);
            lists.run(2);
            EXPECT.answer("above a low nucleus, cramped " + cramped, cramped == 1 ? 30 : 40, () -> lists.item(0, 2));
        }
    }

    /** Empty lists are scripts: they take Z / 2, and their line is their top and bottom. */
    private static void emptyScripts() {
        FormulaLists lists = nucleus(0, 0);
        lists.atom(8, 0);
        lists.atom(8, 0);
        lists.script(0, true, 1);
        EXPECT.answer("run with an empty upper one", 1, () -> lists.run(0));
        EXPECT.sizes("an empty upper one takes Z / 2", lists, 45, 50, 0);
        lists.script(0, false, 2);
        EXPECT.answer("run with two empty ones", 1, () -> lists.run(0));
        EXPECT.sizes("two empty ones", lists, 45, 50, 20);
        FormulaLists lower = nucleus(0, 0);
        lower.atom(8, 0);
        lower.script(0, false, 1);
        lower.run(0);
        EXPECT.sizes("an empty lower one", lower, 45, 50, 20);
        FormulaLists small = new FormulaLists();
        small.atom(8, 0);
        small.atom(8, 0);
        small.matrix(1, 1);
        small.atom(8, 0);
        small.script(0, true, 3);
        small.run(2);
        EXPECT.sizes("an empty one above a small nucleus", small, 5, 40, 0);
    }

    private static void emptyLimits() {
        FormulaLists lists = nucleus(1, 3);
        lists.atom(8, 0);
        lists.atom(8, 0);
        lists.script(0, true, 1);
        lists.script(0, false, 2);
        EXPECT.answer("run with empty limits", 1, () -> lists.run(0));
        EXPECT.sizes("empty limits", lists, 98, 80, 38);
    }

    /** "Of others": fractions, fences and matrices have no limits in display. */
    private static void scriptsOfStructures() {
        FormulaLists lists = new FormulaLists();
        for (int list = 1; list <= 5; list++) {
            lists.atom(8, 0);
        }
        lists.fraction(1, 2, 0);
        lists.fence(1, 3, 0);
        lists.matrix(1, 1);
        int[] widths = {10, 35, 0};
        for (int node = 0; node < 3; node++) {
            int upper = lists.atom(8, 0);
            lists.atom(0, 0);
            int base = node;
            EXPECT.answer("script of node " + node, 1, () -> lists.script(base, true, upper));
            EXPECT.answer("run of its script", 1, () -> lists.run(upper));
        }
        lists.run(5);
        // A fraction of empty lists is 50 high, an empty fence too, an empty matrix 20: all scripts are at 4 Z.
        int x = 0;
        int[] items = {0, 2, 3};
        for (int node = 0; node < 3; node++) {
            int begins = x + widths[node];
            int item = items[node];
            EXPECT.item("the script of node " + node, lists, item, 0, begins, 40, 7, 28, 0, 3 + node, 0);
            x = begins + 28 + 5 + 10;
        }
    }
}
