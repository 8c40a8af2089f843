import java.util.NoSuchElementException;

/** Promise 12: a list is split at a relation. */
public final class SplitTest {
    private static final Expect EXPECT = new Expect("SplitTest");

    public static void main(String[] args) {
        atEachRelation();
        openOrNot();
        atTheFirstNode();
        atTheLastNode();
        styleNodesGoAlong();
        scriptsGoAlong();
        newListIsFree();
        undoesARing();
        relationsByTheirOwnKind();
        relationsOfItsOwnAlone();
        refusesListsThatAreNotThere();
        refusesRelationsThatAreNotThere();
        listsEnd();
        nodesDoNotMatter();
        refusalsInTheirOrder();
        EXPECT.end();
    }

    /** List 0: an ordinary one, a relation, an ordinary one, a relation, an ordinary one. */
    private static FormulaLists twoRelations() {
        FormulaLists lists = new FormulaLists();
        for (int kind : new int[] {0, 3, 0, 3, 0}) {
            lists.atom(kind, 0);
        }
        return lists;
    }

    /** "at its i-th relation (from 0)" */
    private static void atEachRelation() {
        FormulaLists first = twoRelations();
        EXPECT.answer("split(0, 0)", 1, () -> first.split(0, 0));
        EXPECT.answer("what stays", 1, () -> first.run(0));
        EXPECT.answer("what goes", 4, () -> first.run(1));
        EXPECT.answer("it begins with the relation", 1, () -> first.item(0, 6));
        FormulaLists second = twoRelations();
        EXPECT.answer("split(0, 1)", 1, () -> second.split(0, 1));
        EXPECT.answer("what stays", 3, () -> second.run(0));
        EXPECT.answer("what goes", 2, () -> second.run(1));
        EXPECT.answer("and once more", 2, () -> second.split(0, 0));
        EXPECT.answer("what stays then", 1, () -> second.run(0));
        EXPECT.answer("what goes then", 2, () -> second.run(2));
    }

    /** "(which is not the open one, but if this one was)" */
    private static void openOrNot() {
        FormulaLists open = twoRelations();
        open.split(0, 1);
        open.atom(0, 7);
        EXPECT.answer("the new list is open if this one was", 3, () -> open.run(1));
        EXPECT.answer("and the old one no more", 3, () -> open.run(0));
        FormulaLists closed = twoRelations();
        closed.atom(8, 0);
        EXPECT.answer("split of a list that is not open", 2, () -> closed.split(0, 1));
        closed.atom(0, 7);
        EXPECT.answer("the open list stays open", 1, () -> closed.run(1));
        EXPECT.answer("the new one is not", 2, () -> closed.run(2));
        EXPECT.answer("the next list has the next number", 3, () -> closed.atom(8, 0));
    }

    /** "that one and all behind it": where it is the first, nothing stays. */
    private static void atTheFirstNode() {
        FormulaLists lists = new FormulaLists();
        lists.atom(3, 0);
        lists.atom(0, 0);
        EXPECT.answer("split at the first node", 1, () -> lists.split(0, 0));
        EXPECT.answer("nothing stays", 0, () -> lists.run(0));
        EXPECT.answer("all goes", 2, () -> lists.run(1));
        EXPECT.answer("again: all goes", 2, () -> lists.split(1, 0));
        EXPECT.answer("nothing stays again", 0, () -> lists.run(1));
        lists.atom(0, 0);
        EXPECT.answer("the last one is open", 3, () -> lists.run(2));
    }

    private static void atTheLastNode() {
        FormulaLists lists = new FormulaLists();
        lists.atom(0, 0);
        lists.atom(3, 0);
        lists.split(0, 0);
        EXPECT.answer("one stays", 1, () -> lists.run(0));
        EXPECT.answer("one goes", 1, () -> lists.run(1));
        EXPECT.answer("no relation is left", 2, () -> lists.atom(8, 0));
        EXPECT.refusal("split(0, 0) again", IndexOutOfBoundsException.class, () -> lists.split(0, 0));
    }

    private static void styleNodesGoAlong() {
        FormulaLists lists = new FormulaLists();
        lists.style(3, false);
        lists.atom(3, 0);
        lists.style(2, false);
        lists.atom(0, 0);
        lists.split(0, 0);
        EXPECT.answer("run of the new list", 2, () -> lists.run(1));
        EXPECT.answer("the style before the relation stays behind", 10, () -> lists.item(0, 3));
        EXPECT.answer("the style behind it goes along", 7, () -> lists.item(1, 3));
    }

    private static void scriptsGoAlong() {
        FormulaLists lists = twoRelations();
        lists.atom(8, 0);
        lists.atom(0, 0);
        lists.script(3, true, 1);
        lists.split(0, 1);
        EXPECT.answer("without the script", 3, () -> lists.run(0));
        EXPECT.answer("with the script", 3, () -> lists.run(2));
    }

    private static void newListIsFree() {
        FormulaLists lists = twoRelations();
        lists.atom(8, 0);
        EXPECT.answer("split of list 0", 2, () -> lists.split(0, 0));
        EXPECT.answer("its tail may come into an atom", 1, () -> lists.script(0, true, 2));
        EXPECT.answer("split of a list in an atom", 3, () -> lists.split(2, 1));
        EXPECT.answer("run(0)", 3, () -> lists.run(0));
        EXPECT.answer("its tail is free", 6, () -> lists.fence(1, 3, 1));
        EXPECT.refusal("the head is not", IllegalStateException.class, () -> lists.fence(1, 2, 1));
    }

    private static void undoesARing() {
        FormulaLists lists = new FormulaLists();
        lists.atom(8, 0);
        lists.atom(0, 0);
        lists.atom(3, 0);
        lists.atom(8, 0);
        EXPECT.refusal("node 1 is in list 1", IllegalStateException.class, () -> lists.script(1, true, 1));
        EXPECT.answer("split(1, 0)", 3, () -> lists.split(1, 0));
        EXPECT.answer("node 1 is no more in list 1", 1, () -> lists.script(1, true, 1));
        EXPECT.refusal("node 0 is in list 3 by that", IllegalStateException.class, () -> lists.script(0, true, 3));
    }

    /** "as told, by its own kind": no other kind is one, and a style node neither. */
    private static void relationsByTheirOwnKind() {
        for (int kind = 0; kind < 8; kind++) {
            FormulaLists lists = new FormulaLists();
            int told = kind;
            lists.atom(kind, 3);
            lists.style(3, false);
            if (told == 3) {
                EXPECT.answer("split at kind 3", 1, () -> lists.split(0, 0));
            } else {
                EXPECT.refusal("split at kind " + kind, IndexOutOfBoundsException.class, () -> lists.split(0, 0));
            }
        }
        FormulaLists parts = new FormulaLists();
        for (int list = 1; list <= 5; list++) {
            parts.atom(8, 0);
        }
        parts.fraction(1, 2, 3);
        parts.fence(3, 3, 3);
        parts.matrix(1, 1);
        EXPECT.refusal("split at inner ones", IndexOutOfBoundsException.class, () -> parts.split(5, 0));
    }

    /** "its i-th relation": those of lists in its atoms are not its own. */
    private static void relationsOfItsOwnAlone() {
        FormulaLists lists = new FormulaLists();
        lists.atom(0, 0);
        lists.atom(8, 0);
        lists.atom(3, 0);
        lists.script(0, true, 1);
        EXPECT.refusal("a relation in a script", IndexOutOfBoundsException.class, () -> lists.split(0, 0));
        EXPECT.answer("the script itself", 2, () -> lists.split(1, 0));
    }

    /** "NoSuchElementException" */
    private static void refusesListsThatAreNotThere() {
        FormulaLists lists = twoRelations();
        for (int wrong : new int[] {-1, 1, 30, Integer.MIN_VALUE, Integer.MAX_VALUE}) {
            EXPECT.refusal("split(" + wrong + ", 0)", NoSuchElementException.class, () -> lists.split(wrong, 0));
        }
        EXPECT.answer("no list was begun", 1, () -> lists.atom(8, 0));
    }

    /** "IndexOutOfBoundsException when it has none such" */
    private static void refusesRelationsThatAreNotThere() {
        FormulaLists lists = twoRelations();
        lists.style(3, false);
        for (int wrong : new int[] {-1, 2, 3, 4, Integer.MIN_VALUE, Integer.MAX_VALUE}) {
            EXPECT.refusal("split(0, " + wrong + ")", IndexOutOfBoundsException.class, () -> lists.split(0, wrong));
        }
        EXPECT.answer("nothing was split", 5, () -> lists.run(0));
        lists.atom(0, 0);
        EXPECT.answer("the list is still open", 6, () -> lists.run(0));
        EXPECT.answer("no list was begun", 1, () -> lists.atom(8, 0));
        EXPECT.refusal("an empty list", IndexOutOfBoundsException.class, () -> lists.split(1, 0));
    }

    /** "UnsupportedOperationException when there are 30 lists": the 30th is split off, the next one is not. */
    private static void listsEnd() {
        FormulaLists lists = twoRelations();
        for (int list = 1; list < 29; list++) {
            lists.atom(8, 0);
        }
        EXPECT.answer("the 30th list", 29, () -> lists.split(0, 1));
        EXPECT.refusal("one more", UnsupportedOperationException.class, () -> lists.split(0, 0));
        EXPECT.answer("nothing was split again", 3, () -> lists.run(0));
        lists.atom(0, 0);
        EXPECT.answer("the open list is as it was", 1, () -> lists.run(28));
        FormulaLists over = new FormulaLists();
        over.atom(3, 0);
        for (int list = 1; list < 30; list++) {
            int before = list - 1;
            EXPECT.answer("split over and over", list, () -> over.split(before, 0));
        }
        EXPECT.refusal("and no more", UnsupportedOperationException.class, () -> over.split(29, 0));
        over.atom(0, 0);
        EXPECT.answer("the last one is open", 2, () -> over.run(29));
    }

    /** 120 nodes are no hindrance: a split makes none. */
    private static void nodesDoNotMatter() {
        FormulaLists lists = twoRelations();
        for (int node = 5; node < 120; node++) {
            lists.atom(0, 0);
        }
        EXPECT.answer("split of 120 nodes", 1, () -> lists.split(0, 0));
        EXPECT.answer("what stays", 1, () -> lists.run(0));
        EXPECT.answer("what goes", 119, () -> lists.run(1));
    }

    /** "it is the one that it names first" */
    private static void refusalsInTheirOrder() {
        FormulaLists lists = twoRelations();
        EXPECT.refusal("no list, and no relation", NoSuchElementException.class, () -> lists.split(1, -1));
        for (int list = 1; list < 30; list++) {
            lists.atom(8, 0);
        }
        EXPECT.refusal("no list goes first", NoSuchElementException.class, () -> lists.split(30, 5));
        EXPECT.refusal("then the relation", IndexOutOfBoundsException.class, () -> lists.split(0, 2));
        EXPECT.refusal("an empty list, and 30 lists", IndexOutOfBoundsException.class, () -> lists.split(29, 0));
        EXPECT.refusal("then 30 lists", UnsupportedOperationException.class, () -> lists.split(0, 0));
        EXPECT.answer("nothing was split", 5, () -> lists.run(0));
    }
}
