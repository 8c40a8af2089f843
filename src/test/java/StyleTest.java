/** Promise 7: style nodes change the style for what is behind them in their list. */
public final class StyleTest {
    private static final Expect EXPECT = new Expect("StyleTest");

    public static void main(String[] args) {
        numbers();
        otherStyles();
        nodesEnd();
        refusalsInTheirOrder();
        lastInItsList();
        theLastOfSeveral();
        crampedOrNot();
        sizes();
        spaces();
        endsWithItsList();
        EXPECT.end();
    }

    private static void numbers() {
        FormulaLists lists = new FormulaLists();
        EXPECT.answer("style(0, false)", 0, () -> lists.style(0, false));
        EXPECT.answer("atom", 1, () -> lists.atom(0, 0));
        EXPECT.answer("style(3, true)", 2, () -> lists.style(3, true));
        EXPECT.answer("style nodes are no items", 1, () -> lists.run(0));
    }

    /** "IllegalArgumentException": a style too small, or too large; 0 and 3 are none. */
    private static void otherStyles() {
        FormulaLists lists = new FormulaLists();
        for (int wrong : new int[] {-1, 4, Integer.MIN_VALUE, Integer.MAX_VALUE}) {
            EXPECT.refusal("style(" + wrong + ", true)", IllegalArgumentException.class, () -> lists.style(wrong, true));
            EXPECT.refusal("style(" + wrong + ", false)", IllegalArgumentException.class, () -> lists.style(wrong, false));
        }
        EXPECT.answer("style(0, true)", 0, () -> lists.style(0, true));
        EXPECT.answer("style(3, false)", 1, () -> lists.style(3, false));
    }

    /** "UnsupportedOperationException": the 120th node is made, the next one is not. */
    private static void nodesEnd() {
        FormulaLists lists = new FormulaLists();
        for (int node = 0; node < 120; node++) {
            int due = node;
            EXPECT.answer("style node " + node, due, () -> lists.style(2, false));
        }
        EXPECT.refusal("120 nodes", UnsupportedOperationException.class, () -> lists.style(2, false));
        EXPECT.refusal("120 nodes, an atom", UnsupportedOperationException.class, () -> lists.atom(0, 0));
        EXPECT.answer("run(0)", 0, () -> lists.run(0));
        EXPECT.sizes("nothing but styles", lists, 0, 0, 0);
    }

    /** "it is the one that it names first" */
    private static void refusalsInTheirOrder() {
        FormulaLists lists = new FormulaLists();
        for (int node = 0; node < 120; node++) {
            lists.atom(0, 0);
        }
        EXPECT.refusal("style 4, and 120 nodes", IllegalArgumentException.class, () -> lists.style(4, false));
        EXPECT.refusal("style -1, and 120 nodes", IllegalArgumentException.class, () -> lists.style(-1, true));
        EXPECT.refusal("120 nodes", UnsupportedOperationException.class, () -> lists.style(3, true));
    }

    /** "for those behind it in the list": nothing is behind the last one. */
    private static void lastInItsList() {
        FormulaLists lists = new FormulaLists();
        lists.atom(0, 0);
        lists.style(3, true);
        lists.run(0);
        EXPECT.item("before a style", lists, 0, 0, 0, 0, 10, 40, 0, 0, 0);
        EXPECT.sizes("before a style", lists, 40, 50, 0);
    }

    private static void theLastOfSeveral() {
        FormulaLists lists = new FormulaLists();
        lists.style(2, true);
        lists.style(3, false);
        lists.style(1, false);
        lists.atom(1, 0);
        lists.run(0);
        EXPECT.answer("three styles in a row", 10, () -> lists.item(0, 3));
    }

    /** "a style node changes the style (and whether it is cramped)": also back again. */
    private static void crampedOrNot() {
        FormulaLists lists = new FormulaLists();
        lists.style(1, true);
        lists.atom(0, 0);
        lists.style(1, false);
        lists.atom(0, 0);
        for (int node : new int[] {1, 3}) {
            int upper = lists.atom(8, 0);
            lists.atom(0, 0);
            lists.script(node, true, upper);
        }
        lists.run(0);
        EXPECT.answer("cramped", 30, () -> lists.item(1, 2));
        EXPECT.answer("cramped no more", 40, () -> lists.item(3, 2));
    }

    private static void sizes() {
        FormulaLists lists = new FormulaLists();
        int[] due = {10, 10, 7, 5};
        for (int style = 0; style < 4; style++) {
            lists.style(style, false);
            lists.atom(0, 0);
            lists.style(style, true);
            lists.atom(1, 0);
        }
        lists.run(0);
        for (int style = 0; style < 4; style++) {
            int i = 2 * style;
            EXPECT.answer("sign in style " + style, due[style], () -> lists.item(i, 3));
            int operator = style == 0 ? 14 : due[style];
            EXPECT.answer("operator in style " + style, operator, () -> lists.item(i + 1, 3));
        }
    }

    private static void spaces() {
        int[] units = {10, 10, 7, 5};
        for (int first = 0; first < 4; first++) {
            for (int second = 0; second < 4; second++) {
                FormulaLists lists = new FormulaLists();
                lists.style(first, false);
                lists.atom(0, 0);
                lists.style(second, false);
                lists.atom(3, 0);
                lists.atom(1, 0);
                lists.atom(1, 0);
                lists.run(0);
                int z = units[second];
                int thick = second < 2 ? 3 * z : 0;
                int sign = 4 * units[first];
                int operator = second == 0 ? 56 : 4 * z;
                String styles = " from style " + first + " to " + second;
                EXPECT.answer("thick" + styles, sign + thick, () -> lists.item(1, 1));
                EXPECT.answer("thick again" + styles, sign + 2 * thick + 4 * z, () -> lists.item(2, 1));
                EXPECT.answer("thin" + styles, sign + 2 * thick + 4 * z + operator + z, () -> lists.item(3, 1));
            }
        }
    }

    private static void endsWithItsList() {
        FormulaLists lists = new FormulaLists();
        lists.atom(8, 0);
        lists.style(3, false);
        lists.atom(0, 0);
        lists.atom(8, 0);
        lists.fence(1, 1, 1);
        lists.atom(0, 0);
        lists.run(2);
        EXPECT.answer("in the fence", 5, () -> lists.item(1, 3));
        EXPECT.answer("behind the fence", 10, () -> lists.item(3, 3));
        EXPECT.answer("the fence itself is of its own style", 30, () -> lists.item(0, 4));
    }
}
