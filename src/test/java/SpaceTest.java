/** Promise 10: the spaces between kinds in display, and as they are laid out. */
public final class SpaceTest {
    private static final Expect EXPECT = new Expect("SpaceTest");
    private static final String[] DUE = {
        "01230001", "11030001", "22002002", "33003003", "00000000", "01230001", "11011111", "11231011"};

    public static void main(String[] args) {
        table();
        refusals();
        laidOut();
        inSmallStyles();
        EXPECT.end();
    }

    private static void table() {
        FormulaLists lists = new FormulaLists();
        for (int a = 0; a < 8; a++) {
            for (int b = 0; b < 8; b++) {
                int first = a;
                int second = b;
                EXPECT.answer("space(" + a + ", " + b + ")", DUE[a].charAt(b) - '0', () -> lists.space(first, second));
            }
        }
    }

    /** "IllegalArgumentException when one is not 0 .. 7" */
    private static void refusals() {
        FormulaLists lists = new FormulaLists();
        for (int wrong : new int[] {-1, 8, 9, Integer.MIN_VALUE, Integer.MAX_VALUE}) {
            EXPECT.refusal("space(" + wrong + ", 0)", IllegalArgumentException.class, () -> lists.space(wrong, 0));
            EXPECT.refusal("space(0, " + wrong + ")", IllegalArgumentException.class, () -> lists.space(0, wrong));
            EXPECT.refusal("space(" + wrong + ", 7)", IllegalArgumentException.class, () -> lists.space(wrong, 7));
            EXPECT.refusal("space(7, " + wrong + ")", IllegalArgumentException.class, () -> lists.space(7, wrong));
        }
        EXPECT.refusal("space(-1, 9)", IllegalArgumentException.class, () -> lists.space(-1, 9));
    }

    /** The space between the second and the third of: an ordinary one, a, b, an ordinary one. */
    private static int between(int a, int b, int style) {
        FormulaLists lists = new FormulaLists();
        lists.style(style, false);
        lists.atom(0, 0);
        lists.atom(a, 0);
        lists.atom(b, 0);
        lists.atom(0, 0);
        lists.run(0);
        return lists.item(2, 1) - lists.item(1, 1) - lists.item(1, 4);
    }

    private static void laidOut() {
        for (int a = 0; a < 8; a++) {
            for (int b = 0; b < 8; b++) {
                // A binary one would count as ordinary next to some kinds.
                boolean binds = (a != 2 || b != 3 && b != 5 && b != 6) && (b != 2 || a == 0 || a == 5 || a == 7);
                if (binds) {
                    int first = a;
                    int second = b;
                    EXPECT.answer("laid out " + a + ", " + b, 10 * (DUE[a].charAt(b) - '0'), () -> between(first, second, 1));
                }
            }
        }
    }

    /** "1 is thin; a, b, c are .. none in others" */
    private static void inSmallStyles() {
        int[] units = {10, 10, 7, 5};
        for (int style = 2; style < 4; style++) {
            for (int a = 0; a < 8; a++) {
                for (int b = 0; b < 8; b++) {
                    boolean beforeOperator = b == 1 && (a == 0 || a == 1 || a == 5 || a == 7);
                    // A binary one behind an operator counts as ordinary.
                    boolean behindOperator = a == 1 && (b == 0 || b == 2);
                    int due = beforeOperator || behindOperator ? units[style] : 0;
                    int first = a;
                    int second = b;
                    int in = style;
                    EXPECT.answer("in style " + style + ": " + a + ", " + b, due, () -> between(first, second, in));
                }
            }
        }
    }
}
