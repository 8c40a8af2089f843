import java.util.ArrayList;
import java.util.Arrays;
import java.util.List;

/** Compares answers with those that are due, and ends the program with 1 if one was wrong. */
final class Expect {
    interface Call {
        long answer();
    }

    private static final int MOST_TOLD = 100;

    private final String test;
    private int calls = 0;
    private int wrong = 0;

    Expect(String test) {
        this.test = test;
    }

    void answer(String call, long due, Call made) {
        same(call, Long.toString(due), outcome(made));
    }

    void refusal(String call, Class<? extends RuntimeException> due, Call made) {
        same(call, due.getSimpleName(), outcome(made));
    }

    void same(String call, String due, String got) {
        calls++;
        if (!due.equals(got)) {
            wrong++;
            if (wrong <= MOST_TOLD) {
                System.out.println(test + ": " + call + " answered " + got + ", due is " + due);
            }
        }
    }

    /** Width, height and depth of what was laid out last. */
    void sizes(String call, FormulaLists lists, int width, int height, int depth) {
        String due = width + " " + height + " " + depth;
        same(call, due, lists.item(-1, 0) + " " + lists.item(-1, 1) + " " + lists.item(-1, 2));
    }

    /** All eight values of one item. */
    void item(String call, FormulaLists lists, int i, int... due) {
        List<Integer> values = new ArrayList<>();
        for (int what = 0; what < 8; what++) {
            values.add(lists.item(i, what));
        }
        same(call, Arrays.toString(due), values.toString());
    }

    void end() {
        System.out.println(test + ": " + calls + " checks, " + wrong + " wrong");
        if (wrong > 0) {
            System.exit(1);
        }
    }

    static String outcome(Call made) {
        try {
            return Long.toString(made.answer());
        } catch (RuntimeException e) {
            return e.getClass().getSimpleName();
        }
    }
}
