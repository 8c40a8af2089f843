/** Promise 6: a matrix takes the free lists that began last, and stands about the axis. */
public final class MatrixTest {
    private static final Expect EXPECT = new Expect("MatrixTest");

    public static void main(String[] args) {
        takesTheLastFreeLists();
        skipsWhatIsNotFree();
        otherRowsOrColumns();
        firstAndLastRowsAndColumns();
        notSoManyLists();
        refusesRings();
        ringOfOneThatIsNotTaken();
        columnsAndRows();
        rowsAreOfTheirOwnHeight();
        halfOfAnOddHeight();
        midstIsDownward();
        styles();
        emptyCells();
        manyCells();
        nodesEnd();
        EXPECT.end();
    }

    private static FormulaLists withLists(int... signs) {
        FormulaLists lists = new FormulaLists();
        for (int sign : signs) {
            lists.atom(8, 0);
            lists.atom(0, sign);
        }
        lists.atom(8, 0);
        return lists;
    }

    private static void takesTheLastFreeLists() {
        FormulaLists lists = withLists(10, 11, 12, 13);
        EXPECT.answer("matrix(1, 3)", 5, () -> lists.matrix(1, 3));
        EXPECT.answer("it is inner", 7, () -> lists.kind(4));
        EXPECT.answer("run(5)", 3, () -> lists.run(5));
        EXPECT.answer("first cell", 11, () -> lists.item(0, 5));
        EXPECT.answer("second cell", 12, () -> lists.item(1, 5));
        EXPECT.answer("third cell", 13, () -> lists.item(2, 5));
        EXPECT.answer("one more of what is left", 6, () -> lists.matrix(1, 1));
        EXPECT.answer("nothing is left", 0, () -> lists.matrix(1, 1));
        EXPECT.answer("run(5) of two", 4, () -> lists.run(5));
    }

    private static void skipsWhatIsNotFree() {
        FormulaLists lists = withLists(10, 11, 12, 13);
        lists.script(0, true, 3);
        EXPECT.answer("matrix(3, 1)", 5, () -> lists.matrix(3, 1));
        lists.run(5);
        EXPECT.answer("the script came along", 4, () -> lists.run(5));
        EXPECT.answer("cell 1", 10, () -> lists.item(0, 5));
        EXPECT.answer("its script", 12, () -> lists.item(1, 5));
        EXPECT.answer("cell 2", 11, () -> lists.item(2, 5));
        EXPECT.answer("cell 3", 13, () -> lists.item(3, 5));
        FormulaLists split = new FormulaLists();
        split.atom(8, 0);
        split.atom(0, 1);
        split.atom(3, 2);
        split.atom(8, 0);
        split.split(1, 0);
        EXPECT.answer("the open list need not be the last one", 3, () -> split.matrix(2, 1));
        EXPECT.answer("run(2)", 2, () -> split.run(2));
        EXPECT.answer("the list that was split off comes last", 2, () -> split.item(1, 5));
    }

    /** "0 when rows or columns are not 1 .. 5", and nothing is made. */
    private static void otherRowsOrColumns() {
        FormulaLists lists = withLists(1, 2, 3, 4, 5, 6);
        int[] wrong = {0, -1, 6, Integer.MIN_VALUE, Integer.MAX_VALUE, 1 << 16, -(1 << 16)};
        for (int size : wrong) {
            EXPECT.answer("matrix(" + size + ", 1)", 0, () -> lists.matrix(size, 1));
            EXPECT.answer("matrix(1, " + size + ")", 0, () -> lists.matrix(1, size));
            EXPECT.answer("matrix(" + size + ", " + size + ")", 0, () -> lists.matrix(size, size));
        }
        EXPECT.answer("two below 0 whose product is 1", 0, () -> lists.matrix(-1, -1));
        EXPECT.answer("run(7)", 0, () -> lists.run(7));
        EXPECT.answer("all lists are free still", 7, () -> lists.matrix(3, 2));
    }

    private static void firstAndLastRowsAndColumns() {
        for (int[] pair : new int[][] {{1, 1}, {1, 5}, {5, 1}}) {
            FormulaLists lists = withLists(1, 2, 3, 4, 5);
            EXPECT.answer("matrix(" + pair[0] + ", " + pair[1] + ")", 6, () -> lists.matrix(pair[0], pair[1]));
            EXPECT.answer("its cells", pair[0] * pair[1], () -> lists.run(6));
            EXPECT.answer("its last cell", 5, () -> lists.item(pair[0] * pair[1] - 1, 5));
        }
    }

    /** "there are not so many lists": neither list 0 nor the open one counts, nor one that is not free. */
    private static void notSoManyLists() {
        FormulaLists lists = withLists(1, 2, 3, 4, 5, 6);
        for (int[] pair : new int[][] {{3, 3}, {5, 2}, {2, 4}, {5, 5}}) {
            EXPECT.answer("matrix(" + pair[0] + ", " + pair[1] + ")", 0, () -> lists.matrix(pair[0], pair[1]));
        }
        EXPECT.answer("run(7) after refusals", 0, () -> lists.run(7));
        EXPECT.answer("matrix(3, 2) takes just all", 7, () -> lists.matrix(3, 2));
        EXPECT.answer("none is left", 0, () -> lists.matrix(1, 1));
        FormulaLists none = new FormulaLists();
        EXPECT.answer("list 0 is never taken", 0, () -> none.matrix(1, 1));
        none.atom(8, 0);
        EXPECT.answer("the open list and list 0 are not taken", 0, () -> none.matrix(1, 1));
        none.atom(8, 0);
        EXPECT.answer("one list for two cells", 0, () -> none.matrix(1, 2));
        EXPECT.answer("one list for one cell", 1, () -> none.matrix(1, 1));
    }

    /** "or there would be a ring" */
    private static void refusesRings() {
        FormulaLists lists = withLists(1, 2);
        lists.script(1, true, 3);
        EXPECT.answer("the open list is in list 2", 0, () -> lists.matrix(1, 1));
        EXPECT.answer("and so it is in one of two", 0, () -> lists.matrix(2, 1));
        EXPECT.answer("nothing was made", 2, () -> lists.atom(0, 0));
        lists.atom(8, 0);
        EXPECT.answer("with another open list", 4, () -> lists.matrix(2, 1));
    }

    /** Only the lists that began last are looked at: a ring through an earlier one does not matter. */
    private static void ringOfOneThatIsNotTaken() {
        FormulaLists lists = withLists(1, 2);
        lists.script(0, true, 3);
        EXPECT.answer("list 2 is no ring", 3, () -> lists.matrix(1, 1));
        EXPECT.answer("list 1 is one", 0, () -> lists.matrix(1, 1));
    }

    private static void columnsAndRows() {
        FormulaLists lists = withLists(3, 0, 4, 7);
        EXPECT.answer("matrix(2, 2)", 5, () -> lists.matrix(2, 2));
        lists.run(5);
        // Rows: 50 high and 20 deep; 60 high and 20 deep; 20 between: 170 in all, from -65 to 105.
        EXPECT.item("row 0, column 0", lists, 0, 0, 5, 55, 10, 70, 3, 0, 0);
        EXPECT.item("row 0, column 1", lists, 1, 0, 80 + 30 + 10, 55, 10, 40, 0, 1, 0);
        EXPECT.item("row 1, column 0", lists, 2, 0, 0, -45, 10, 80, 4, 2, 0);
        EXPECT.item("row 1, column 1", lists, 3, 0, 110, -45, 10, 60, 7, 3, 0);
        EXPECT.sizes("matrix", lists, 170, 105, 65);
    }

    private static void rowsAreOfTheirOwnHeight() {
        FormulaLists lists = withLists(0, 5, 11, 0);
        lists.matrix(2, 2);
        lists.run(5);
        // Rows: 70 high and not deep; 70 high and 20 deep; 20 between: 180 in all, from -70 to 110.
        EXPECT.answer("row 0", 110 - 70, () -> lists.item(0, 2));
        EXPECT.answer("row 1", -70 + 20, () -> lists.item(2, 2));
        EXPECT.sizes("rows of unlike depth", lists, 50 + 30 + 40, 110, 70);
        FormulaLists low = withLists(0, 11, 0, 0);
        low.matrix(2, 2);
        low.run(5);
        // Rows: 70 high and 20 deep; 50 high and not deep; 20 between: 160 in all, from -60.
        EXPECT.answer("a high and deep row", 30, () -> low.item(0, 2));
        EXPECT.answer("a low row below it", -60, () -> low.item(2, 2));
        EXPECT.sizes("a low row below a high one", low, 40 + 30 + 50, 100, 60);
        FormulaLists wide = withLists(0, 5, 3);
        wide.matrix(1, 3);
        wide.run(4);
        // The second one is the highest (70), the third one the deepest (20): 90 in all, from -25.
        EXPECT.answer("their line", -5, () -> wide.item(0, 2));
        EXPECT.sizes("one row", wide, 40 + 30 + 40 + 30 + 70, 65, 25);
    }

    /** "with half of its whole height (downward) below the axis" */
    private static void halfOfAnOddHeight() {
        FormulaLists lists = withLists(0);
        lists.style(2, false);
        lists.matrix(1, 1);
        lists.run(2);
        // 35 in all: 17 below the axis at 14, 18 above.
        EXPECT.item("a cell", lists, 0, 0, 0, -3, 7, 28, 0, 0, 0);
        EXPECT.sizes("a matrix of 35", lists, 28, 32, 3);
    }

    /** "each list in its midst": odd, so downward. */
    private static void midstIsDownward() {
        FormulaLists lists = withLists(0, 1);
        lists.style(2, false);
        lists.matrix(2, 1);
        lists.run(3);
        // 28 and 35 wide: 7 / 2. Rows of 35 and 42, 14 between: 91, from 14 - 45.
        EXPECT.item("the narrow one", lists, 0, 0, 3, -31 + 42 + 14, 7, 28, 0, 0, 0);
        EXPECT.item("the wide one", lists, 1, 0, 0, -31, 7, 35, 1, 1, 0);
        EXPECT.sizes("both", lists, 35, 60, 31);
    }

    /** "in style 1 if it was 0, else as it is, not cramped" */
    private static void styles() {
        int[] sizes = {10, 10, 7, 5};
        for (int style = 0; style < 4; style++) {
            FormulaLists lists = new FormulaLists();
            lists.atom(8, 0);
            lists.atom(1, 0);
            lists.atom(8, 0);
            lists.atom(0, 0);
            lists.atom(8, 0);
            lists.atom(0, 0);
            lists.script(1, true, 3);
            lists.atom(8, 0);
            lists.style(style, true);
            lists.matrix(1, 2);
            lists.run(4);
            int z = sizes[style];
            EXPECT.answer("size in style " + style, z, () -> lists.item(0, 3));
            EXPECT.answer("second column in style " + style, 4 * z + 3 * z, () -> lists.item(1, 1));
            EXPECT.answer("cells are not cramped in style " + style, 4 * z, () -> lists.item(2, 2) - lists.item(1, 2));
        }
    }

    private static void emptyCells() {
        FormulaLists lists = new FormulaLists();
        for (int list = 1; list <= 5; list++) {
            lists.atom(8, 0);
        }
        EXPECT.answer("matrix of empty lists", 1, () -> lists.matrix(2, 2));
        EXPECT.answer("run(5)", 0, () -> lists.run(5));
        // 20 between the rows are all its height: 10 below the axis, 10 above.
        EXPECT.sizes("a matrix of empty lists", lists, 30, 30, 0);
        FormulaLists one = new FormulaLists();
        one.atom(8, 0);
        one.atom(8, 0);
        one.matrix(1, 1);
        one.run(2);
        EXPECT.sizes("one empty list stands on the axis", one, 0, 20, 0);
        emptyRowOrColumn();
    }

    private static void emptyRowOrColumn() {
        FormulaLists row = withLists(0);
        row.atom(8, 0);
        row.matrix(2, 1);
        row.run(3);
        // 50 and 20 between the rows and nothing: 70 in all, from -15.
        EXPECT.item("above an empty row", row, 0, 0, 0, 5, 10, 40, 0, 0, 0);
        EXPECT.sizes("with an empty row", row, 40, 55, 15);
        FormulaLists column = withLists(0);
        column.atom(8, 0);
        column.matrix(1, 2);
        column.run(3);
        EXPECT.sizes("with an empty column", column, 40 + 30, 45, 5);
    }

    private static void manyCells() {
        FormulaLists lists = new FormulaLists();
        for (int list = 1; list <= 25; list++) {
            lists.atom(8, 0);
            lists.atom(0, list);
        }
        lists.atom(8, 0);
        EXPECT.answer("matrix(5, 5)", 26, () -> lists.matrix(5, 5));
        EXPECT.answer("run(26)", 25, () -> lists.run(26));
        for (int i = 0; i < 25; i++) {
            int cell = i;
            EXPECT.answer("cell " + i, cell + 1, () -> lists.item(cell, 5));
        }
    }

    /** "UnsupportedOperationException when there are 120 nodes", also where the answer would be 0. */
    private static void nodesEnd() {
        FormulaLists lists = withLists(1, 2);
        for (int node = 2; node < 119; node++) {
            lists.atom(0, 0);
        }
        EXPECT.answer("no such matrix is not the 120th node", 0, () -> lists.matrix(1, 6));
        EXPECT.answer("the 120th node", 120, () -> lists.matrix(1, 1));
        EXPECT.refusal("one more", UnsupportedOperationException.class, () -> lists.matrix(1, 1));
        EXPECT.refusal("120 nodes and no such matrix", UnsupportedOperationException.class, () -> lists.matrix(0, 9));
        EXPECT.refusal("120 nodes and not so many lists", UnsupportedOperationException.class, () -> lists.matrix(5, 5));
        EXPECT.answer("list 1 is still free", 1, () -> lists.script(2, true, 1));
    }
}
