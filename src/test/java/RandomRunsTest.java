import java.util.Random;

/**
 * Runs of calls, always the same ones, on the program and on the reference: every answer is to be alike.
 * A step is at most two calls, as an object is good for 512.
 */
public final class RandomRunsTest {
    private static final int RUNS = 6000;
    private static final int STEPS = 256;
    private static final int[] ODD = {-1, 32, 12, 20, Integer.MIN_VALUE, Integer.MAX_VALUE, -32, 64};

    private final Checks checks;
    private final Random random;
    private final int termShare;
    private FloatSolver solver = new FloatSolver();
    private Reference reference = new Reference();
    private String where;
    private int satisfied;
    private int refused;

    private RandomRunsTest(Checks checks, int run) {
        this.checks = checks;
        this.random = new Random(run);
        this.termShare = 5 + run % 30;
    }

    public static void main(String[] args) {
        Checks checks = new Checks();
        int satisfied = 0;
        int refused = 0;
        for (int run = 0; run < RUNS; run++) {
            RandomRunsTest test = new RandomRunsTest(checks, run);
            for (int step = 0; step < STEPS; step++) {
                test.where = "run " + run + ", step " + step + ": ";
                test.step();
            }
            satisfied += test.satisfied;
            refused += test.refused;
        }
        checks.isTrue("checks that answer true are tried", satisfied > 1000);
        checks.isTrue("checks that answer false are tried", refused > 1000);
        checks.finish("RandomRunsTest");
    }

    private void step() {
        int roll = random.nextInt(100);
        if (roll < termShare) {
            makeTerm();
        } else if (roll < 45) {
            int term = below(13);
            compare("claim(" + term + ")", () -> solver.claim(term), () -> reference.claim(term));
        } else if (roll < 52) {
            compare("open()", () -> solver.open(), () -> reference.open());
        } else if (roll < 61) {
            compare("close()", () -> solver.close(), () -> reference.close());
        } else if (roll < 70) {
            checkBoth();
        } else if (roll < 78) {
            int variable = random.nextInt(8) == 0 ? odd() : random.nextInt(3);
            compare("model(" + variable + ")", () -> solver.model(variable), () -> reference.model(variable));
        } else if (roll < 90) {
            int term = below(13);
            compare("value(" + term + ")", () -> solver.value(term), () -> reference.value(term));
        } else if (roll < 94) {
            reckonBoth();
        }
        compareACount();
    }

    private void makeTerm() {
        int kind = random.nextInt(12) == 0 ? odd() : random.nextInt(20);
        if (reference.terms() < 4) {
            kind = random.nextInt(3);
        }
        int a = kind == 0 ? below(3) : kind == 1 ? below(32) : below(12);
        int b = below(12);
        int c = below(12);
        int k = kind;
        String call = "term(" + kind + ", " + a + ", " + b + ", " + c + ")";
        compare(call, () -> solver.term(k, a, b, c), () -> reference.term(k, a, b, c));
    }

    private void checkBoth() {
        boolean due = reference.check();
        satisfied += due ? 1 : 0;
        refused += due ? 0 : 1;
        checks.due(where + "check()", due ? 1 : 0, () -> solver.check() ? 1 : 0);
    }

    private void reckonBoth() {
        int kind = random.nextInt(12) == 0 ? odd() : random.nextInt(20);
        int x = below(32);
        int y = below(32);
        String call = "reckon(" + kind + ", " + x + ", " + y + ")";
        compare(call, () -> solver.reckon(kind, x, y), () -> reference.reckon(kind, x, y));
    }

    private void compareACount() {
        switch (random.nextInt(4)) {
            case 0:
                compare("terms()", () -> solver.terms(), () -> reference.terms());
                break;
            case 1:
                compare("claims()", () -> solver.claims(), () -> reference.claims());
                break;
            case 2:
                compare("level()", () -> solver.level(), () -> reference.level());
                break;
            default:
                compare("checks()", () -> solver.checks(), () -> reference.checks());
                break;
        }
    }

    private void compare(String call, Checks.Call got, Checks.Call want) {
        checks.due(where + call, Checks.of(want), got);
    }

    private int below(int bound) {
        return random.nextInt(40) == 0 ? odd() : random.nextInt(bound);
    }

    private int odd() {
        return ODD[random.nextInt(ODD.length)];
    }
}
