/** Promise 1: a new object has list 0 alone, which is open. */
public final class NewObjectTest {
    public static void main(String[] args) {
        Expect expect = new Expect("NewObjectTest");
        FormulaLists lists = new FormulaLists();
        expect.answer("run(0)", 0, () -> lists.run(0));
        expect.sizes("sizes of an empty list", lists, 0, 0, 0);
        expect.refusal("run(1)", java.util.NoSuchElementException.class, () -> lists.run(1));
        expect.refusal("run(-1)", java.util.NoSuchElementException.class, () -> lists.run(-1));
        expect.refusal("kind(0)", java.util.NoSuchElementException.class, () -> lists.kind(0));
        expect.answer("atom(0, 0) is node 0", 0, () -> lists.atom(0, 0));
        expect.answer("run(0): the atom went into list 0", 1, () -> lists.run(0));
        expect.answer("atom(8, 0) is list 1", 1, () -> lists.atom(8, 0));

        FormulaLists other = new FormulaLists();
        expect.answer("run(0) of another object", 0, () -> other.run(0));
        expect.end();
    }
}
