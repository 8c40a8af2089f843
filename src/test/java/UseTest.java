/** The example in README.md, with the answers that are due to it. */
public final class UseTest {
    private static final Expect EXPECT = new Expect("UseTest");

    public static void main(String[] args) {
        FormulaLists lists = new FormulaLists();
        int x = lists.atom(0, 120);
        int two = lists.atom(8, 0);
        lists.atom(0, 50);
        EXPECT.answer("x", 0, () -> x);
        EXPECT.answer("two", 1, () -> two);
        EXPECT.answer("script(x, true, two)", 1, () -> lists.script(x, true, two));
        EXPECT.answer("run(0)", 2, () -> lists.run(0));
        // 40 and 28 wide, and Z / 2; the script's line is at 4 Z, its top 49 above that.
        EXPECT.sizes("x with two", lists, 73, 89, 0);
        EXPECT.item("x", lists, 0, 0, 0, 0, 10, 40, 120, 0, 0);
        EXPECT.item("two", lists, 1, 0, 40, 40, 7, 28, 50, 1, 0);
        EXPECT.end();
    }
}
