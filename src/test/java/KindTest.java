import java.util.NoSuchElementException;

/** Promise 11: binary atoms count as ordinary where they bind nothing. */
public final class KindTest {
    private static final Expect EXPECT = new Expect("KindTest");

    public static void main(String[] args) {
        othersCountAsTheyAre();
        byTheOneBefore();
        byTheNextOne();
        rows();
        overStyleNodes();
        asTheListIsNow();
        afterASplit();
        listByList();
        innerOnes();
        theLastNode();
        refusals();
        EXPECT.end();
    }

    private static void othersCountAsTheyAre() {
        for (int kind : new int[] {0, 1, 3, 4, 5, 6, 7}) {
            FormulaLists lists = new FormulaLists();
            lists.atom(kind, 0);
            EXPECT.answer("kind " + kind, kind, () -> lists.kind(0));
        }
    }

    /** "or the one before it counts as 1, 2, 3, 4 or 6" */
    private static void byTheOneBefore() {
        int[] due = {2, 0, 0, 0, 0, 2, 0, 2};
        for (int before = 0; before < 8; before++) {
            if (before == 2) {
                continue;
            }
            FormulaLists lists = new FormulaLists();
            lists.atom(before, 0);
            lists.atom(2, 0);
            lists.atom(0, 0);
            EXPECT.answer("binary behind " + before, due[before], () -> lists.kind(1));
        }
    }

    /** "or if the next one is 3, 5 or 6" */
    private static void byTheNextOne() {
        int[] due = {2, 2, 2, 0, 2, 0, 0, 2};
        for (int next = 0; next < 8; next++) {
            FormulaLists lists = new FormulaLists();
            lists.atom(0, 0);
            lists.atom(2, 0);
            lists.atom(next, 0);
            EXPECT.answer("binary before " + next, due[next], () -> lists.kind(1));
        }
    }

    /** "if it is the first atom", "counts as 2", "or there is none" */
    private static void rows() {
        FormulaLists lists = new FormulaLists();
        lists.atom(0, 0);
        for (int i = 0; i < 6; i++) {
            lists.atom(2, 0);
        }
        // The first binds, so the second does not, so the third does; the last has none behind it.
        int[] due = {0, 2, 0, 2, 0, 2, 0};
        for (int i = 0; i < due.length; i++) {
            int node = i;
            EXPECT.answer("binary " + i + " in a row", due[i], () -> lists.kind(node));
        }
        FormulaLists alone = new FormulaLists();
        alone.atom(2, 0);
        EXPECT.answer("binary alone", 0, () -> alone.kind(0));
        alone.atom(0, 0);
        EXPECT.answer("binary first", 0, () -> alone.kind(0));
    }

    /** "(style nodes are not looked at)" */
    private static void overStyleNodes() {
        FormulaLists lists = new FormulaLists();
        lists.style(0, false);
        lists.atom(0, 0);
        lists.style(1, false);
        lists.atom(2, 0);
        lists.style(2, false);
        lists.style(1, false);
        EXPECT.answer("nothing but style nodes behind", 0, () -> lists.kind(3));
        lists.atom(0, 0);
        EXPECT.answer("between style nodes", 2, () -> lists.kind(3));
        lists.run(0);
        EXPECT.answer("medium over style nodes", 40 + 20 + 40 + 20, () -> lists.item(2, 1));
        FormulaLists first = new FormulaLists();
        first.style(1, false);
        first.atom(2, 0);
        first.atom(0, 0);
        EXPECT.answer("first but for a style node", 0, () -> first.kind(1));
    }

    /** "as its list is now" */
    private static void asTheListIsNow() {
        FormulaLists lists = new FormulaLists();
        lists.atom(0, 0);
        lists.atom(2, 0);
        EXPECT.answer("at the end", 0, () -> lists.kind(1));
        lists.atom(0, 0);
        EXPECT.answer("no more at the end", 2, () -> lists.kind(1));
        lists.atom(2, 0);
        lists.atom(3, 0);
        lists.atom(2, 0);
        lists.atom(0, 0);
        EXPECT.answer("before a relation", 0, () -> lists.kind(3));
        EXPECT.answer("behind a relation", 0, () -> lists.kind(5));
        lists.split(0, 0);
        EXPECT.answer("at the end of what stays", 0, () -> lists.kind(3));
        EXPECT.answer("still behind a relation", 0, () -> lists.kind(5));
        EXPECT.answer("the relation itself", 3, () -> lists.kind(4));
    }

    private static void afterASplit() {
        FormulaLists lists = new FormulaLists();
        for (int kind : new int[] {0, 2, 3, 0, 2, 0}) {
            lists.atom(kind, 0);
        }
        lists.split(0, 0);
        EXPECT.answer("the last of what stays", 0, () -> lists.kind(1));
        EXPECT.answer("the first of the new list", 3, () -> lists.kind(2));
        EXPECT.answer("in the new list", 2, () -> lists.kind(4));
        FormulaLists longer = new FormulaLists();
        for (int kind : new int[] {0, 2, 3}) {
            longer.atom(kind, 0);
        }
        longer.atom(8, 0);
        longer.split(0, 0);
        EXPECT.answer("nothing behind what stays", 0, () -> longer.kind(1));
    }

    /** "list by list" */
    private static void listByList() {
        FormulaLists lists = new FormulaLists();
        lists.atom(0, 0);
        lists.atom(8, 0);
        lists.atom(2, 0);
        lists.atom(0, 0);
        EXPECT.answer("first of its own list", 0, () -> lists.kind(1));
        lists.script(0, true, 1);
        EXPECT.answer("and so in a script", 0, () -> lists.kind(1));
    }

    /** "a fraction, a fence, or a matrix (these three are inner)": binary ones bind them. */
    private static void innerOnes() {
        FormulaLists lists = new FormulaLists();
        for (int list = 1; list <= 5; list++) {
            lists.atom(8, 0);
        }
        lists.fraction(1, 2, 0);
        lists.atom(2, 0);
        lists.fence(1, 3, 1);
        lists.atom(2, 0);
        lists.matrix(1, 1);
        int[] due = {7, 2, 7, 2, 7};
        for (int node = 0; node < due.length; node++) {
            int asked = node;
            EXPECT.answer("inner ones, node " + node, due[node], () -> lists.kind(asked));
        }
    }

    private static void theLastNode() {
        FormulaLists lists = new FormulaLists();
        for (int node = 0; node < 119; node++) {
            lists.atom(0, 0);
        }
        lists.atom(2, 0);
        EXPECT.answer("kind(119)", 0, () -> lists.kind(119));
        EXPECT.refusal("kind(120)", NoSuchElementException.class, () -> lists.kind(120));
    }

    /** "NoSuchElementException (also for a style node)" */
    private static void refusals() {
        FormulaLists lists = new FormulaLists();
        lists.atom(0, 0);
        lists.style(1, true);
        for (int wrong : new int[] {-1, 1, 2, 120, Integer.MIN_VALUE, Integer.MAX_VALUE}) {
            EXPECT.refusal("kind(" + wrong + ")", NoSuchElementException.class, () -> lists.kind(wrong));
        }
    }
}
