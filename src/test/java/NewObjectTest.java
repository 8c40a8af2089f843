import java.util.NoSuchElementException;

/** Promise 1: a new object has list 0 alone, which is open. */
public final class NewObjectTest {
    private static final Expect EXPECT = new Expect("NewObjectTest");

    public static void main(String[] args) {
        listZeroAlone();
        listZeroIsEmpty();
        listZeroIsOpen();
        listZeroIsNotFree();
        objectsShareNothing();
        EXPECT.end();
    }

    /** "List 0": there is no list before it, and none behind it. */
    private static void listZeroAlone() {
        FormulaLists lists = new FormulaLists();
        EXPECT.answer("run(0)", 0, () -> lists.run(0));
        EXPECT.refusal("run(1)", NoSuchElementException.class, () -> lists.run(1));
        EXPECT.refusal("run(-1)", NoSuchElementException.class, () -> lists.run(-1));
        EXPECT.answer("atom(8, 0) is list 1", 1, () -> lists.atom(8, 0));
    }

    private static void listZeroIsEmpty() {
        FormulaLists lists = new FormulaLists();
        EXPECT.answer("run(0)", 0, () -> lists.run(0));
        EXPECT.sizes("sizes of an empty list", lists, 0, 0, 0);
        EXPECT.refusal("item(0, 0)", IndexOutOfBoundsException.class, () -> lists.item(0, 0));
        EXPECT.refusal("kind(0)", NoSuchElementException.class, () -> lists.kind(0));
        EXPECT.refusal("split(0, 0)", IndexOutOfBoundsException.class, () -> lists.split(0, 0));
        EXPECT.answer("atom(0, 0) is node 0", 0, () -> lists.atom(0, 0));
    }

    /** "which is open" */
    private static void listZeroIsOpen() {
        FormulaLists lists = new FormulaLists();
        lists.atom(0, 0);
        EXPECT.answer("run(0): the atom went into list 0", 1, () -> lists.run(0));
    }

    private static void listZeroIsNotFree() {
        FormulaLists lists = new FormulaLists();
        EXPECT.refusal("fraction(0, 0, 0)", IllegalStateException.class, () -> lists.fraction(0, 0, 0));
        EXPECT.refusal("fence(1, 0, 1)", IllegalStateException.class, () -> lists.fence(1, 0, 1));
        EXPECT.answer("matrix(1, 1)", 0, () -> lists.matrix(1, 1));
    }

    private static void objectsShareNothing() {
        FormulaLists one = new FormulaLists();
        one.atom(0, 0);
        one.atom(8, 0);
        one.run(0);
        FormulaLists other = new FormulaLists();
        EXPECT.sizes("what another laid out", other, 0, 0, 0);
        EXPECT.answer("run(0) of another object", 0, () -> other.run(0));
        EXPECT.refusal("run(1) of another object", NoSuchElementException.class, () -> other.run(1));
        EXPECT.sizes("what the first one laid out", one, 40, 50, 0);
    }
}
