import java.util.Random;

/** All promises: long runs of calls, sensible and wild, answered by the class as by a plain model of the document. */
public final class ModelTest {
    private static final int RUNS = 3000;
    private static final int CALLS = 512;

    private final Random random;
    private final FormulaLists lists = new FormulaLists();
    private final PlainModel model = new PlainModel();
    private final Expect expect;
    private int nodes = 0;
    private int begun = 1;
    private int items = 0;

    private ModelTest(Expect expect, long seed) {
        this.expect = expect;
        this.random = new Random(seed);
    }

    public static void main(String[] args) {
        Expect expect = new Expect("ModelTest");
        for (int seed = 0; seed < RUNS; seed++) {
            new ModelTest(expect, seed).play(seed);
        }
        expect.end();
    }

    private void play(int seed) {
        int wildness = 2 + seed % 60;
        int listShare = 4 + seed % 37;
        for (int call = 0; call < CALLS; call++) {
            String place = "seed " + seed + ", call " + call + ": ";
            if (random.nextInt(wildness) == 0 && random.nextInt(4) == 0) {
                wildCall(place);
            } else {
                plainCall(place, random.nextInt(listShare + 60), listShare);
            }
        }
    }

    private void plainCall(String place, int dice, int listShare) {
        if (dice < listShare) {
            callAtom(place, 8, 0);
        } else if (dice < listShare + 18) {
            callAtom(place, random.nextInt(8), random.nextInt(256));
        } else if (dice < listShare + 26) {
            callScript(place, below(nodes), random.nextBoolean(), below(begun));
        } else if (dice < listShare + 31) {
            callFraction(place, below(begun), below(begun), random.nextInt(5) == 0 ? random.nextInt(1002) : random.nextInt(12) - 3);
        } else if (dice < listShare + 37) {
            int left = random.nextInt(6);
            callFence(place, left, below(begun), random.nextInt(3) == 0 ? random.nextInt(6) : random.nextBoolean() ? left : 0);
        } else if (dice < listShare + 40) {
            callMatrix(place, 1 + random.nextInt(3), 1 + random.nextInt(3));
        } else if (dice < listShare + 43) {
            callStyle(place, random.nextInt(4), random.nextBoolean());
        } else if (dice < listShare + 48) {
            callSplit(place, below(begun), random.nextInt(3));
        } else if (dice < listShare + 52) {
            callKind(place, below(nodes));
        } else if (dice < listShare + 56) {
            callItem(place, below(items + 1) - 1, random.nextInt(8));
        } else {
            callRun(place, random.nextInt(3) == 0 ? 0 : below(begun));
        }
    }

    private void wildCall(String place) {
        switch (random.nextInt(11)) {
            case 0 -> callAtom(place, wild(9), wild(256));
            case 1 -> callScript(place, wild(nodes), random.nextBoolean(), wild(begun));
            case 2 -> callFraction(place, wild(begun), wild(begun), random.nextBoolean() ? random.nextLong() : 990 + random.nextInt(20));
            case 3 -> callFence(place, wild(6), wild(begun), wild(6));
            case 4 -> callMatrix(place, wild(6), wild(6));
            case 5 -> callStyle(place, wild(4), random.nextBoolean());
            case 6 -> callRun(place, wild(begun));
            case 7 -> callItem(place, wild(items), wild(8));
            case 8 -> callKind(place, wild(nodes));
            case 9 -> callSplit(place, wild(begun), wild(3));
            default -> callSpace(place, wild(8), wild(8));
        }
    }

    private int below(int bound) {
        return bound <= 0 ? 0 : random.nextInt(bound);
    }

    private int wild(int bound) {
        return switch (random.nextInt(8)) {
            case 0 -> -1;
            case 1 -> bound;
            case 2 -> Integer.MIN_VALUE + random.nextInt(3);
            case 3 -> Integer.MAX_VALUE - random.nextInt(3);
            case 4 -> random.nextInt();
            default -> below(bound);
        };
    }

    private String compare(String call, Expect.Call subject, Expect.Call due) {
        String answer = Expect.outcome(due);
        expect.same(call, answer, Expect.outcome(subject));
        return answer;
    }

    private static boolean answered(String outcome) {
        return Character.isDigit(outcome.charAt(0));
    }

    private void callAtom(String place, int kind, int nucleus) {
        String got = compare(place + "atom(" + kind + ", " + nucleus + ")", () -> lists.atom(kind, nucleus), () -> model.atom(kind, nucleus));
        if (answered(got) && kind == 8) {
            begun++;
        } else if (answered(got)) {
            nodes++;
        }
    }

    private void callScript(String place, int atom, boolean upper, int list) {
        compare(place + "script(" + atom + ", " + upper + ", " + list + ")", () -> lists.script(atom, upper, list), () -> model.script(atom, upper, list));
    }

    private void callFraction(String place, int over, int under, long rule) {
        String got = compare(place + "fraction(" + over + ", " + under + ", " + rule + ")", () -> lists.fraction(over, under, rule), () -> model.fraction(over, under, rule));
        nodes += answered(got) ? 1 : 0;
    }

    private void callFence(String place, int left, int list, int right) {
        String got = compare(place + "fence(" + left + ", " + list + ", " + right + ")", () -> lists.fence(left, list, right), () -> model.fence(left, list, right));
        nodes += answered(got) && !got.equals("0") ? 1 : 0;
    }

    private void callMatrix(String place, int rows, int columns) {
        String got = compare(place + "matrix(" + rows + ", " + columns + ")", () -> lists.matrix(rows, columns), () -> model.matrix(rows, columns));
        nodes += answered(got) && !got.equals("0") ? 1 : 0;
    }

    private void callStyle(String place, int s, boolean cramped) {
        String got = compare(place + "style(" + s + ", " + cramped + ")", () -> lists.style(s, cramped), () -> model.style(s, cramped));
        nodes += answered(got) ? 1 : 0;
    }

    private void callSplit(String place, int list, int i) {
        String got = compare(place + "split(" + list + ", " + i + ")", () -> lists.split(list, i), () -> model.split(list, i));
        begun += answered(got) ? 1 : 0;
    }

    private void callKind(String place, int i) {
        compare(place + "kind(" + i + ")", () -> lists.kind(i), () -> model.kind(i));
    }

    private void callSpace(String place, int a, int b) {
        compare(place + "space(" + a + ", " + b + ")", () -> lists.space(a, b), () -> model.space(a, b));
    }

    private void callItem(String place, int i, int what) {
        compare(place + "item(" + i + ", " + what + ")", () -> lists.item(i, what), () -> model.item(i, what));
    }

    private void callRun(String place, int list) {
        String got = compare(place + "run(" + list + ")", () -> lists.run(list), () -> model.run(list));
        if (!answered(got)) {
            return;
        }
        items = Integer.parseInt(got);
        for (int what = 0; what < 3; what++) {
            callItem(place + "run(" + list + ") ", -1, what);
        }
        for (int i = 0; i < items; i++) {
            for (int what = 0; what < 8; what++) {
                callItem(place + "run(" + list + ") ", i, what);
            }
        }
    }
}
