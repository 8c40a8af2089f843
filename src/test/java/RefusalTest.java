import java.util.ArrayList;
import java.util.List;
import java.util.function.Supplier;

/**
 * "A call that throws changes nothing": each call that is refused, in a small and in a full object, is
 * made on one of two objects that are alike, and both must then answer alike whatever they are asked.
 */
public final class RefusalTest {
    private static final Expect EXPECT = new Expect("RefusalTest");
    private static final String ARGUMENT = "IllegalArgumentException";
    private static final String STATE = "IllegalStateException";
    private static final String ELEMENT = "NoSuchElementException";
    private static final String INDEX = "IndexOutOfBoundsException";
    private static final String FULL = "UnsupportedOperationException";
    private static final int NODES_OF_SMALL = 9;
    private static final int LISTS_OF_SMALL = 9;

    private interface Refused {
        int call(FormulaLists lists);
    }

    private record Case(String call, String due, Refused refused) {
    }

    public static void main(String[] args) {
        for (Case told : refusedBySmall()) {
            compare("small", RefusalTest::small, told);
        }
        for (Case told : refusedByFull()) {
            compare("full", RefusalTest::full, told);
        }
        zeroChangesNothing();
        EXPECT.end();
    }

    /**
     * List 0: an ordinary one with an upper list 1, a relation, a style; lists 2 and 3 in a fraction in
     * list 4, which is free; list 5 free; list 6, with a relation, in a fence in list 7, which is free;
     * list 8 free, and open. List 0 has been laid out.
     */
    private static FormulaLists small() {
        FormulaLists lists = new FormulaLists();
        lists.atom(0, 7);
        lists.atom(3, 8);
        lists.style(1, true);
        lists.atom(8, 0);
        lists.atom(2, 9);
        lists.script(0, true, 1);
        lists.atom(8, 0);
        lists.atom(8, 0);
        lists.atom(0, 10);
        lists.atom(8, 0);
        lists.fraction(2, 3, -1);
        lists.atom(8, 0);
        lists.atom(8, 0);
        lists.atom(3, 11);
        lists.atom(8, 0);
        lists.fence(1, 6, 1);
        lists.atom(8, 0);
        lists.atom(1, 12);
        lists.run(0);
        return lists;
    }

    /** The same with 30 lists and 120 nodes; list 8 is open no more, list 29 is. */
    private static FormulaLists full() {
        FormulaLists lists = small();
        for (int list = LISTS_OF_SMALL; list < 30; list++) {
            lists.atom(8, 0);
        }
        for (int node = NODES_OF_SMALL; node < 120; node++) {
            lists.atom(node % 8, node);
        }
        lists.run(0);
        return lists;
    }

    private static List<Case> refusedBySmall() {
        List<Case> cases = new ArrayList<>();
        cases.add(new Case("atom(-1, 0)", ARGUMENT, lists -> lists.atom(-1, 0)));
        cases.add(new Case("atom(9, 0)", ARGUMENT, lists -> lists.atom(9, 0)));
        cases.add(new Case("atom(0, -1)", ARGUMENT, lists -> lists.atom(0, -1)));
        cases.add(new Case("atom(3, 256)", ARGUMENT, lists -> lists.atom(3, 256)));
        cases.add(new Case("script of a style", ELEMENT, lists -> lists.script(2, false, 8)));
        cases.add(new Case("script of no node", ELEMENT, lists -> lists.script(NODES_OF_SMALL, false, 8)));
        cases.add(new Case("script of no list", ELEMENT, lists -> lists.script(0, false, LISTS_OF_SMALL)));
        cases.add(new Case("a second upper one", STATE, lists -> lists.script(0, true, 8)));
        cases.add(new Case("a script in use", STATE, lists -> lists.script(0, false, 1)));
        cases.add(new Case("list 0 as a script", STATE, lists -> lists.script(8, false, 0)));
        cases.add(new Case("a script that is a ring", STATE, lists -> lists.script(4, false, 4)));
        cases.add(new Case("a fraction over no list", ELEMENT, lists -> lists.fraction(5, 9, 0)));
        cases.add(new Case("a fraction under no list", ELEMENT, lists -> lists.fraction(-1, 5, 0)));
        cases.add(new Case("a rule of 1001", ARGUMENT, lists -> lists.fraction(4, 5, 1001)));
        cases.add(new Case("a fraction of one list", STATE, lists -> lists.fraction(5, 5, 0)));
        cases.add(new Case("a fraction over a list in use", STATE, lists -> lists.fraction(5, 1, 0)));
        cases.add(new Case("a fraction under a list in use", STATE, lists -> lists.fraction(2, 5, 0)));
        cases.add(new Case("a fraction that is a ring", STATE, lists -> lists.fraction(5, 8, 0)));
        cases.add(new Case("a fence round no list", ELEMENT, lists -> lists.fence(1, 9, 1)));
        cases.add(new Case("a fence of delimiter 6", ARGUMENT, lists -> lists.fence(0, 5, 6)));
        cases.add(new Case("a fence round a list in use", STATE, lists -> lists.fence(1, 6, 1)));
        cases.add(new Case("a fence that is a ring", STATE, lists -> lists.fence(1, 8, 0)));
        cases.add(new Case("style(4, true)", ARGUMENT, lists -> lists.style(4, true)));
        cases.add(new Case("style(-1, false)", ARGUMENT, lists -> lists.style(-1, false)));
        cases.add(new Case("run of no list", ELEMENT, lists -> lists.run(LISTS_OF_SMALL)));
        cases.add(new Case("run(-1)", ELEMENT, lists -> lists.run(-1)));
        cases.add(new Case("item behind the last", INDEX, lists -> lists.item(3, 0)));
        cases.add(new Case("item(-1, 3)", INDEX, lists -> lists.item(-1, 3)));
        cases.add(new Case("item(0, 8)", INDEX, lists -> lists.item(0, 8)));
        cases.add(new Case("space(8, 0)", ARGUMENT, lists -> lists.space(8, 0)));
        cases.add(new Case("kind of a style", ELEMENT, lists -> lists.kind(2)));
        cases.add(new Case("kind of no node", ELEMENT, lists -> lists.kind(NODES_OF_SMALL)));
        cases.add(new Case("split of no list", ELEMENT, lists -> lists.split(LISTS_OF_SMALL, 0)));
        cases.add(new Case("split at no relation", INDEX, lists -> lists.split(0, 1)));
        cases.add(new Case("split of the open list at no relation", INDEX, lists -> lists.split(8, 0)));
        return cases;
    }

    private static List<Case> refusedByFull() {
        List<Case> cases = new ArrayList<>();
        cases.add(new Case("an atom", FULL, lists -> lists.atom(0, 0)));
        cases.add(new Case("a list", FULL, lists -> lists.atom(8, 0)));
        cases.add(new Case("a fraction", FULL, lists -> lists.fraction(4, 5, 0)));
        cases.add(new Case("a fence", FULL, lists -> lists.fence(1, 4, 1)));
        cases.add(new Case("an unbalanced fence", FULL, lists -> lists.fence(0, 4, 0)));
        cases.add(new Case("a matrix", FULL, lists -> lists.matrix(2, 2)));
        cases.add(new Case("no matrix", FULL, lists -> lists.matrix(0, 0)));
        cases.add(new Case("a style", FULL, lists -> lists.style(0, false)));
        cases.add(new Case("a split", FULL, lists -> lists.split(0, 0)));
        cases.add(new Case("a split of the open list", FULL, lists -> lists.split(29, 2)));
        cases.add(new Case("a second upper one", STATE, lists -> lists.script(0, true, 5)));
        cases.add(new Case("run(30)", ELEMENT, lists -> lists.run(30)));
        cases.add(new Case("kind(120)", ELEMENT, lists -> lists.kind(120)));
        return cases;
    }

    /** The answer 0 is no exception, but makes as little. */
    private static void zeroChangesNothing() {
        compare("small", RefusalTest::small, new Case("an unbalanced fence", "0", lists -> lists.fence(1, 5, 2)));
        compare("small", RefusalTest::small, new Case("a fence of nothing", "0", lists -> lists.fence(0, 5, 0)));
        compare("small", RefusalTest::small, new Case("matrix(0, 1)", "0", lists -> lists.matrix(0, 1)));
        compare("small", RefusalTest::small, new Case("matrix(1, 6)", "0", lists -> lists.matrix(1, 6)));
        compare("small", RefusalTest::small, new Case("too many lists", "0", lists -> lists.matrix(2, 2)));
        compare("ringed", RefusalTest::ringed, new Case("a matrix that is a ring", "0", lists -> lists.matrix(1, 3)));
    }

    /** The open list 8 is in list 4 now; lists 4, 5 and 7 are free. */
    private static FormulaLists ringed() {
        FormulaLists lists = small();
        lists.script(5, true, 8);
        return lists;
    }

    private static void compare(String object, Supplier<FormulaLists> scene, Case told) {
        String place = told.call + ", " + object;
        for (Probe look : Probe.values()) {
            FormulaLists asked = scene.get();
            FormulaLists twin = scene.get();
            EXPECT.same(place, told.due, Expect.outcome(() -> told.refused.call(asked)));
            EXPECT.same(place + ", then " + look, look.at(twin), look.at(asked));
        }
    }

    /** What is looked at behind a refused call, each on an object of its own, since some of it changes the object. */
    private enum Probe {
        ITEMS {
            String at(FormulaLists lists) {
                return items(lists);
            }
        },
        KINDS {
            String at(FormulaLists lists) {
                StringBuilder seen = new StringBuilder();
                for (int node = 0; node <= 120; node++) {
                    int asked = node;
                    seen.append(' ').append(Expect.outcome(() -> lists.kind(asked)));
                }
                return seen.toString();
            }
        },
        RUNS {
            String at(FormulaLists lists) {
                StringBuilder seen = new StringBuilder();
                for (int list = 0; list <= 30; list++) {
                    int asked = list;
                    seen.append(' ').append(Expect.outcome(() -> lists.run(asked))).append(items(lists));
                }
                return seen.toString();
            }
        },
        OPEN_LIST {
            String at(FormulaLists lists) {
                String made = Expect.outcome(() -> lists.atom(0, 200));
                return made + RUNS.at(lists);
            }
        },
        NEXT_LIST {
            String at(FormulaLists lists) {
                return Expect.outcome(() -> lists.atom(8, 0)) + OPEN_LIST.at(lists);
            }
        },
        FREE_LISTS {
            String at(FormulaLists lists) {
                StringBuilder seen = new StringBuilder();
                for (int list = 0; list < 30; list++) {
                    int asked = list;
                    for (boolean upper : new boolean[] {false, true}) {
                        for (int node : new int[] {0, 1, 8}) {
                            seen.append(' ').append(Expect.outcome(() -> lists.script(node, upper, asked)));
                        }
                    }
                }
                return seen + RUNS.at(lists);
            }
        },
        MATRIX {
            String at(FormulaLists lists) {
                return Expect.outcome(() -> lists.matrix(3, 1)) + Expect.outcome(() -> lists.matrix(1, 1)) + RUNS.at(lists);
            }
        },
        SPLITS {
            String at(FormulaLists lists) {
                StringBuilder seen = new StringBuilder();
                for (int list = 0; list < 30; list++) {
                    int asked = list;
                    seen.append(' ').append(Expect.outcome(() -> lists.split(asked, 0)));
                }
                return seen + OPEN_LIST.at(lists);
            }
        };

        abstract String at(FormulaLists lists);

        private static String items(FormulaLists lists) {
            StringBuilder seen = new StringBuilder();
            for (int what = 0; what < 3; what++) {
                seen.append(' ').append(lists.item(-1, what));
            }
            for (int i = 0; hasItem(lists, i); i++) {
                for (int what = 0; what < 8; what++) {
                    seen.append(' ').append(lists.item(i, what));
                }
            }
            return seen.toString();
        }

        private static boolean hasItem(FormulaLists lists, int i) {
            return !Expect.outcome(() -> lists.item(i, 0)).equals(INDEX);
        }
    }
}
