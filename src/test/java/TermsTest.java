import java.util.NoSuchElementException;

/** The terms of the document: how many nodes and lists there are, which lists are free, and what a ring is. */
public final class TermsTest {
    private static final Expect EXPECT = new Expect("TermsTest");

    /** The ways in which a list comes into an atom. */
    private enum Way {
        UPPER, LOWER, OVER, UNDER, FENCE, MATRIX;

        boolean isScript() {
            return this == UPPER || this == LOWER;
        }

        /** Base is the node that scripts come to, spare the other list of a fraction. */
        int take(FormulaLists lists, int base, int list, int spare) {
            return switch (this) {
                case UPPER -> lists.script(base, true, list);
                case LOWER -> lists.script(base, false, list);
                case OVER -> lists.fraction(list, spare, 0);
                case UNDER -> lists.fraction(spare, list, 0);
                case FENCE -> lists.fence(1, list, 1);
                case MATRIX -> lists.matrix(1, 1);
            };
        }
    }

    public static void main(String[] args) {
        nodesAreNumberedInTheirOrder();
        theLastNodeIsMadeByEachCall();
        noCallMakesAnotherNode();
        fullObjectsStillAnswer();
        theLastListIsMadeByEachCall();
        listsInAtomsAreNotFree();
        listZeroIsNeverFree();
        listsOfRefusedCallsStayFree();
        nodesGoIntoTheListThatBeganLast();
        ringsThroughEachWay();
        ringsAndSoOn();
        sameListsWithoutARing();
        the512thCall();
        EXPECT.end();
    }

    private static void fill(FormulaLists lists, int from, int nodes) {
        for (int node = from; node < nodes; node++) {
            lists.atom(0, 0);
        }
    }

    /** "NODES 0, 1, .. in the order in which they were made": all makers count together. */
    private static void nodesAreNumberedInTheirOrder() {
        FormulaLists lists = new FormulaLists();
        for (int list = 1; list <= 5; list++) {
            lists.atom(8, 0);
        }
        EXPECT.answer("an atom", 0, () -> lists.atom(0, 0));
        EXPECT.answer("a style", 1, () -> lists.style(1, false));
        EXPECT.answer("a fraction", 2, () -> lists.fraction(1, 2, 0));
        EXPECT.answer("a fence: its number and 1", 4, () -> lists.fence(1, 3, 1));
        EXPECT.answer("a matrix: its number and 1", 5, () -> lists.matrix(1, 1));
        EXPECT.answer("an atom behind them", 5, () -> lists.atom(0, 0));
        EXPECT.answer("none has been left out", 4, () -> lists.run(5));
    }

    /** "NODES (120 at most)": the 120th one is number 119, whatever makes it. */
    private static void theLastNodeIsMadeByEachCall() {
        for (int maker = 0; maker < 5; maker++) {
            FormulaLists lists = withThreeFreeLists(119);
            int which = maker;
            EXPECT.answer("the 120th node, by maker " + maker, which < 3 ? 119 : 120, () -> make(lists, which));
            EXPECT.refusal("a 121st one behind maker " + maker, UnsupportedOperationException.class, () -> lists.atom(0, 0));
        }
    }

    private static void noCallMakesAnotherNode() {
        for (int maker = 0; maker < 5; maker++) {
            FormulaLists lists = withThreeFreeLists(120);
            int which = maker;
            EXPECT.refusal("a 121st node, by maker " + maker, UnsupportedOperationException.class, () -> make(lists, which));
            EXPECT.answer("no item came", 120, () -> lists.run(4));
            EXPECT.answer("list 1 is free", 1, () -> lists.script(0, true, 1));
            EXPECT.answer("list 2 is free", 2, () -> lists.script(0, false, 2));
            EXPECT.answer("list 3 is free", 1, () -> lists.script(1, true, 3));
        }
    }

    /** Lists 1 to 3 are empty, list 4 is open and has the nodes. */
    private static FormulaLists withThreeFreeLists(int nodes) {
        FormulaLists lists = new FormulaLists();
        for (int list = 1; list <= 4; list++) {
            lists.atom(8, 0);
        }
        fill(lists, 0, nodes);
        return lists;
    }

    private static int make(FormulaLists lists, int maker) {
        return switch (maker) {
            case 0 -> lists.atom(0, 0);
            case 1 -> lists.style(3, true);
            case 2 -> lists.fraction(1, 2, -1);
            case 3 -> lists.fence(1, 3, 1);
            default -> lists.matrix(1, 3);
        };
    }

    /** What makes no node and no list goes on where both are full. */
    private static void fullObjectsStillAnswer() {
        FormulaLists lists = new FormulaLists();
        fill(lists, 0, 119);
        lists.atom(3, 0);
        for (int list = 1; list < 30; list++) {
            lists.atom(8, 0);
        }
        EXPECT.answer("script(119, true, 29)", 1, () -> lists.script(119, true, 29));
        EXPECT.answer("kind(119)", 3, () -> lists.kind(119));
        EXPECT.answer("run(0)", 120, () -> lists.run(0));
        EXPECT.answer("item(119, 6)", 119, () -> lists.item(119, 6));
        EXPECT.answer("space(0, 3)", 3, () -> lists.space(0, 3));
        EXPECT.refusal("split(0, 0)", UnsupportedOperationException.class, () -> lists.split(0, 0));
    }

    /** "LISTS (30 at most)": the 30th one is number 29, whether it begins or is split off. */
    private static void theLastListIsMadeByEachCall() {
        for (boolean splits : new boolean[] {false, true}) {
            FormulaLists lists = new FormulaLists();
            lists.atom(3, 0);
            for (int list = 1; list < 29; list++) {
                lists.atom(8, 0);
            }
            EXPECT.answer("the 30th list", 29, () -> splits ? lists.split(0, 0) : lists.atom(8, 0));
            EXPECT.refusal("a 31st one begins", UnsupportedOperationException.class, () -> lists.atom(8, 0));
            int relations = splits ? 29 : 0;
            EXPECT.refusal("a 31st one is split off", UnsupportedOperationException.class, () -> lists.split(relations, 0));
            EXPECT.answer("nothing was split", 1, () -> lists.run(relations));
        }
    }

    /** "A list is FREE as long as it is in no atom": in whatever way it is in one, it comes into no other. */
    private static void listsInAtomsAreNotFree() {
        for (Way first : Way.values()) {
            for (Way second : Way.values()) {
                FormulaLists lists = new FormulaLists();
                lists.atom(0, 0);
                lists.atom(0, 0);
                for (int list = 1; list <= 4; list++) {
                    lists.atom(8, 0);
                }
                first.take(lists, 0, 3, 1);
                String call = "a list in use: " + first + ", then " + second;
                if (second == Way.MATRIX) {
                    EXPECT.answer(call, 0, () -> lists.matrix(1, 3));
                } else {
                    EXPECT.refusal(call, IllegalStateException.class, () -> second.take(lists, 1, 3, 2));
                }
                EXPECT.answer("the spare list is free still", 1, () -> lists.script(1, true, 2));
            }
        }
    }

    /** "and is not list 0" */
    private static void listZeroIsNeverFree() {
        for (Way way : Way.values()) {
            FormulaLists lists = new FormulaLists();
            lists.atom(8, 0);
            if (way == Way.MATRIX) {
                lists.atom(0, 0);
                EXPECT.answer("list 0: " + way, 0, () -> lists.matrix(1, 1));
            } else {
                lists.atom(8, 0);
                lists.atom(0, 0);
                EXPECT.refusal("list 0: " + way, IllegalStateException.class, () -> way.take(lists, 0, 0, 1));
            }
        }
    }

    private static void listsOfRefusedCallsStayFree() {
        FormulaLists lists = new FormulaLists();
        lists.atom(8, 0);
        lists.atom(8, 0);
        EXPECT.refusal("a free list and the open one", IllegalStateException.class, () -> lists.fraction(1, 2, 0));
        EXPECT.refusal("the open one and a free list", IllegalStateException.class, () -> lists.fraction(2, 1, 0));
        EXPECT.refusal("a free list and list 0", IllegalStateException.class, () -> lists.fraction(1, 0, 0));
        EXPECT.answer("a free list twice in a matrix", 0, () -> lists.matrix(2, 1));
        EXPECT.answer("the free one still is", 1, () -> lists.fence(1, 1, 1));
    }

    /** "Nodes are made behind THE OPEN LIST, the one that began last", also when it is in an atom. */
    private static void nodesGoIntoTheListThatBeganLast() {
        FormulaLists lists = new FormulaLists();
        lists.atom(0, 0);
        lists.atom(8, 0);
        lists.script(0, true, 1);
        lists.atom(0, 0);
        EXPECT.answer("the open list is in an atom", 2, () -> lists.run(0));
        lists.atom(8, 0);
        lists.atom(0, 0);
        EXPECT.answer("the one that began before", 1, () -> lists.run(1));
        EXPECT.answer("the one that began last", 1, () -> lists.run(2));
    }

    /**
     * "unless the atom is in it, or in a list in an atom that is in it": list 3 is in an atom of list 4
     * in one way, list 5 is a script in list 3, and list 4 is to come into an atom of list 5 in another.
     */
    private static void ringsThroughEachWay() {
        for (Way inner : Way.values()) {
            for (Way outer : Way.values()) {
                FormulaLists lists = new FormulaLists();
                for (int list = 1; list <= 3; list++) {
                    lists.atom(8, 0);
                }
                lists.atom(0, 0);
                lists.atom(8, 0);
                if (inner.isScript()) {
                    lists.atom(0, 0);
                }
                inner.take(lists, 1, 3, 1);
                lists.atom(8, 0);
                lists.atom(0, 0);
                lists.script(0, true, 5);
                String call = "a ring: " + outer + " round " + inner;
                if (outer == Way.MATRIX) {
                    EXPECT.answer(call, 0, () -> lists.matrix(1, 1));
                } else {
                    EXPECT.refusal(call, IllegalStateException.class, () -> outer.take(lists, 2, 4, 2));
                }
                EXPECT.answer("no node was made: " + call, 6, () -> lists.atom(8, 0));
                EXPECT.answer("node 3", 3, () -> lists.atom(0, 0));
                int due = outer.isScript() ? 1 : outer == Way.OVER || outer == Way.UNDER ? 4 : 5;
                EXPECT.answer("no ring in another list: " + call, due, () -> outer.take(lists, 3, 4, 2));
            }
        }
    }

    /** "and so on": 29 lists, each in the one before it. */
    private static void ringsAndSoOn() {
        FormulaLists lists = new FormulaLists();
        for (int list = 1; list < 30; list++) {
            lists.atom(8, 0);
            lists.atom(0, 0);
            if (list > 1) {
                lists.script(list - 2, true, list);
            }
        }
        for (int node = 0; node < 29; node++) {
            int inside = node;
            EXPECT.refusal("list 1 into its node " + node, IllegalStateException.class, () -> lists.script(inside, false, 1));
        }
        EXPECT.refusal("a fence in the innermost one", IllegalStateException.class, () -> lists.fence(1, 1, 1));
        EXPECT.answer("a matrix in the innermost one", 0, () -> lists.matrix(1, 1));
        EXPECT.answer("all of it is laid out", 29, () -> lists.run(1));
    }

    /** "A free list may come into an atom": what is deep but no ring is fine. */
    private static void sameListsWithoutARing() {
        FormulaLists lists = new FormulaLists();
        lists.atom(0, 0);
        for (int list = 1; list < 30; list++) {
            lists.atom(8, 0);
            lists.atom(0, 0);
        }
        for (int list = 29; list >= 1; list--) {
            int inner = list;
            EXPECT.answer("list " + list + " into the one before", 1, () -> lists.script(inner - 1, true, inner));
        }
        EXPECT.answer("all of it is laid out", 30, () -> lists.run(0));
    }

    /** "An object is used for at most 512 calls": the last of them is answered as any other. */
    private static void the512thCall() {
        FormulaLists lists = new FormulaLists();
        for (int call = 1; call < 512; call++) {
            if (call <= 119) {
                lists.atom(0, 0);
            } else {
                lists.run(0);
            }
        }
        EXPECT.answer("the 512th call", 119, () -> lists.atom(0, 0));
        // What later calls answer is free, but the machine itself must not throw in them.
        for (int call = 0; call < 2000; call++) {
            int list = call % 40 - 5;
            String got = Expect.outcome(() -> lists.run(list));
            boolean fine = got.matches("[0-9]+") || got.equals(NoSuchElementException.class.getSimpleName());
            EXPECT.same("run(" + list + ") after 512 calls", "true", "" + fine);
        }
    }
}
