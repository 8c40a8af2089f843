import java.util.NoSuchElementException;

/** Promise 3: scripts come to an atom, beside it or as limits, and what may not come in is refused. */
public final class ScriptTest {
    private static final Expect EXPECT = new Expect("ScriptTest");

    public static void main(String[] args) {
        countsScripts();
        refusesWhatMayNotComeIn();
        refusesRings();
        upperAlone();
        lowerAlone();
        upperOfTallNucleus();
        upperIsRaisedByItsDepth();
        lowerIsPushedDown();
        crampedUpperIsLower();
        limits();
        wideLimits();
        operatorInTextHasNoLimits();
        stylesOfScripts();
        emptyScripts();
        EXPECT.end();
    }

    private static FormulaLists nucleus(int kind, int sign) {
        FormulaLists lists = new FormulaLists();
        lists.atom(kind, sign);
        return lists;
    }

    /** A new list of one ordinary sign becomes a script of node 0. */
    private static void addScript(FormulaLists lists, boolean upper, int sign) {
        int list = lists.atom(8, 0);
        lists.atom(0, sign);
        lists.script(0, upper, list);
    }

    private static void countsScripts() {
        FormulaLists lists = nucleus(0, 0);
        lists.atom(8, 0);
        lists.atom(8, 0);
        EXPECT.answer("lower first", 1, () -> lists.script(0, false, 2));
        EXPECT.answer("then upper", 2, () -> lists.script(0, true, 1));
    }

    private static void refusesWhatMayNotComeIn() {
        FormulaLists lists = nucleus(0, 0);
        lists.style(1, false);
        lists.atom(8, 0);
        lists.atom(8, 0);
        EXPECT.refusal("no such node", NoSuchElementException.class, () -> lists.script(2, true, 1));
        EXPECT.refusal("a node below 0", NoSuchElementException.class, () -> lists.script(-1, true, 1));
        EXPECT.refusal("a style node", NoSuchElementException.class, () -> lists.script(1, true, 1));
        EXPECT.refusal("no such list", NoSuchElementException.class, () -> lists.script(0, true, 3));
        EXPECT.refusal("a list below 0", NoSuchElementException.class, () -> lists.script(0, true, -1));
        EXPECT.refusal("list 0 is not free", IllegalStateException.class, () -> lists.script(0, true, 0));
        EXPECT.answer("upper", 1, () -> lists.script(0, true, 1));
        EXPECT.refusal("a second upper", IllegalStateException.class, () -> lists.script(0, true, 2));
        EXPECT.refusal("a list in use", IllegalStateException.class, () -> lists.script(0, false, 1));
        EXPECT.refusal("no such list goes before a second upper", NoSuchElementException.class, () -> lists.script(0, true, 9));
        EXPECT.answer("lower after refusals", 2, () -> lists.script(0, false, 2));
    }

    private static void refusesRings() {
        FormulaLists lists = new FormulaLists();
        lists.atom(8, 0);
        lists.atom(0, 1);
        EXPECT.refusal("the atom is in the list", IllegalStateException.class, () -> lists.script(0, true, 1));
        lists.atom(8, 0);
        lists.atom(0, 2);
        EXPECT.answer("list 2 into node 0", 1, () -> lists.script(0, true, 2));
        EXPECT.refusal("the atom is in a list of an atom of the list", IllegalStateException.class, () -> lists.script(1, true, 1));
        lists.atom(8, 0);
        lists.atom(0, 3);
        EXPECT.answer("list 3 into node 1", 1, () -> lists.script(1, false, 3));
        EXPECT.refusal("and so on", IllegalStateException.class, () -> lists.script(2, false, 1));
        lists.atom(8, 0);
        lists.atom(0, 4);
        EXPECT.answer("the whole of list 1 into another", 1, () -> lists.script(3, false, 1));
        EXPECT.answer("run(4)", 4, () -> lists.run(4));
    }

    private static void upperAlone() {
        FormulaLists lists = nucleus(0, 1);
        addScript(lists, true, 0);
        EXPECT.answer("run of an upper one", 2, () -> lists.run(0));
        // Nucleus 50 wide, 60 high; the upper one 28 wide, 35 high, at 4 Z.
        EXPECT.item("the nucleus", lists, 0, 0, 0, 0, 10, 50, 1, 0, 0);
        EXPECT.item("the upper one", lists, 1, 0, 50, 40, 7, 28, 0, 1, 0);
        EXPECT.sizes("with an upper one", lists, 50 + 28 + 5, 75, 0);
    }

    private static void lowerAlone() {
        FormulaLists lists = nucleus(0, 3);
        addScript(lists, false, 0);
        lists.run(0);
        // The nucleus is 20 deep: depth and Z is more than 2 Z.
        EXPECT.item("the lower one of a deep nucleus", lists, 1, 0, 70, -30, 7, 28, 0, 1, 0);
        EXPECT.sizes("with a lower one", lists, 70 + 28 + 5, 50, 30);
        FormulaLists shallow = nucleus(0, 0);
        addScript(shallow, false, 0);
        shallow.run(0);
        EXPECT.answer("the lower one of a shallow nucleus is at 2 Z", -20, () -> shallow.item(1, 2));
        FormulaLists high = nucleus(0, 0);
        int over = high.atom(8, 0);
        int under = high.atom(8, 0);
        int lower = high.atom(8, 0);
        high.fraction(over, under, 200);
        high.script(0, false, lower);
        high.run(0);
        // The fraction in style 2: axis 14, t / 2 is 100, g 7: 121 high, less 40.
        EXPECT.answer("a high lower one is pushed down", 14 - 100 - 81, () -> high.item(1, 2));
    }

    private static void upperOfTallNucleus() {
        FormulaLists lists = new FormulaLists();
        lists.style(1, false);
        int over = lists.atom(8, 0);
        lists.atom(0, 0);
        int under = lists.atom(8, 0);
        lists.atom(0, 0);
        int home = lists.atom(8, 0);
        int fraction = lists.fraction(over, under, 100);
        int upper = lists.atom(8, 0);
        lists.atom(0, 0);
        lists.script(fraction, true, upper);
        lists.run(home);
        // In display: upper line 20 + 50 + 30, its top 50 above that: 150 high, less 2 Z.
        EXPECT.answer("the upper one of a tall nucleus", 130, () -> lists.item(3, 2));
    }

    private static void upperIsRaisedByItsDepth() {
        FormulaLists lists = nucleus(0, 0);
        int over = lists.atom(8, 0);
        int under = lists.atom(8, 0);
        int upper = lists.atom(8, 0);
        lists.fraction(over, under, 200);
        lists.script(0, true, upper);
        lists.run(0);
        // The fraction is 100 + 7 - 14 = 93 deep: its line is at 93 + Z, its rule 86 below.
        EXPECT.answer("a deep upper one is raised", 93 + 10 - 86, () -> lists.item(1, 2));
    }

    private static void lowerIsPushedDown() {
        FormulaLists lists = nucleus(0, 0);
        addScript(lists, true, 3);
        addScript(lists, false, 2);
        lists.run(0);
        // Bottom of the upper one: 40 - 14 = 26. Top of the lower one at 2 Z: -20 + 49 = 29: 13 are missing.
        EXPECT.answer("the upper one stays", 40, () -> lists.item(1, 2));
        EXPECT.answer("the lower one goes down", -33, () -> lists.item(2, 2));
        EXPECT.sizes("with both", lists, 40 + 49 + 5, 75, 33);
        FormulaLists just = nucleus(0, 0);
        addScript(just, true, 3);
        addScript(just, false, 0);
        just.run(0);
        // The top of the lower one is at 15, 11 below the bottom of the upper one.
        EXPECT.answer("the lower one need not go down", -20, () -> just.item(2, 2));
    }

    private static void crampedUpperIsLower() {
        FormulaLists lists = new FormulaLists();
        lists.style(1, true);
        lists.atom(0, 0);
        int upper = lists.atom(8, 0);
        lists.atom(0, 0);
        lists.script(1, true, upper);
        lists.run(0);
        EXPECT.answer("cramped: at 3 Z", 30, () -> lists.item(1, 2));
    }

    private static void limits() {
        FormulaLists lists = nucleus(1, 3);
        addScript(lists, true, 3);
        addScript(lists, false, 2);
        EXPECT.answer("run of limits", 3, () -> lists.run(0));
        // Nucleus: 98 wide, 70 high, 28 deep. Upper: 49 wide, 35 high, 14 deep. Lower: 42 wide, 49 high.
        EXPECT.item("the operator", lists, 0, 0, 0, 0, 14, 98, 3, 0, 0);
        EXPECT.item("the upper limit", lists, 1, 0, 24, 70 + 10 + 14, 7, 49, 3, 1, 0);
        EXPECT.item("the lower limit", lists, 2, 0, 28, -(28 + 10 + 49), 7, 42, 2, 2, 0);
        EXPECT.sizes("with limits", lists, 98, 94 + 35, 87);
    }

    private static void wideLimits() {
        FormulaLists lists = nucleus(1, 0);
        int upper = lists.atom(8, 0);
        lists.atom(0, 4);
        lists.atom(0, 3);
        lists.script(0, true, upper);
        lists.run(0);
        // 56 + 49 wide above, the operator 56 wide: (105 - 56) / 2 is 24.
        EXPECT.answer("the operator stands in the midst", 24, () -> lists.item(0, 1));
        EXPECT.answer("the limit begins at 0", 0, () -> lists.item(1, 1));
        EXPECT.sizes("with a wide limit", lists, 105, 70 + 10 + 14 + 42, 0);
    }

    private static void operatorInTextHasNoLimits() {
        FormulaLists lists = new FormulaLists();
        lists.style(1, false);
        lists.atom(1, 0);
        int upper = lists.atom(8, 0);
        lists.atom(0, 0);
        lists.script(1, true, upper);
        lists.run(0);
        EXPECT.item("the operator in text", lists, 0, 0, 0, 0, 10, 40, 0, 1, 0);
        EXPECT.item("its script", lists, 1, 0, 40, 40, 7, 28, 0, 2, 0);
        EXPECT.sizes("an operator with a script in text", lists, 73, 75, 0);
    }

    private static void stylesOfScripts() {
        int[] sizes = {7, 7, 5, 5};
        int[] units = {10, 10, 7, 5};
        for (int style = 0; style < 4; style++) {
            FormulaLists lists = new FormulaLists();
            lists.style(style, false);
            lists.atom(0, 0);
            int upper = lists.atom(8, 0);
            lists.atom(0, 0);
            int lower = lists.atom(8, 0);
            lists.atom(0, 0);
            lists.script(1, true, upper);
            lists.script(1, false, lower);
            lists.run(0);
            int z = units[style];
            EXPECT.item("upper in style " + style, lists, 1, 0, 4 * z, 4 * z, sizes[style], 4 * sizes[style], 0, 2, 0);
            EXPECT.answer("lower in style " + style, sizes[style], () -> lists.item(2, 3));
            EXPECT.answer("width in style " + style, 4 * z + 4 * sizes[style] + z / 2, () -> lists.item(-1, 0));
        }
        FormulaLists cramped = nucleus(0, 0);
        int upper = cramped.atom(8, 0);
        int above = cramped.atom(0, 0);
        int lower = cramped.atom(8, 0);
        int below = cramped.atom(0, 0);
        int aboveAbove = cramped.atom(8, 0);
        cramped.atom(0, 0);
        int aboveBelow = cramped.atom(8, 0);
        cramped.atom(0, 0);
        cramped.script(above, true, aboveAbove);
        cramped.script(below, true, aboveBelow);
        cramped.script(0, true, upper);
        cramped.script(0, false, lower);
        cramped.run(0);
        EXPECT.answer("upper ones are not cramped", 28, () -> cramped.item(2, 2) - cramped.item(1, 2));
        EXPECT.answer("lower ones are cramped", 21, () -> cramped.item(4, 2) - cramped.item(3, 2));
    }

    private static void emptyScripts() {
        FormulaLists lists = nucleus(0, 0);
        lists.atom(8, 0);
        lists.script(0, true, 1);
        EXPECT.answer("run with an empty upper one", 1, () -> lists.run(0));
        EXPECT.sizes("an empty upper one takes Z / 2", lists, 45, 50, 0);
    }
}
