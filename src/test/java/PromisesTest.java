/** The promises one by one on small runs: ordinary inputs, the edges that the document names, wrong inputs. */
public final class PromisesTest {
    private static final long ARGUMENT = Checks.ILLEGAL_ARGUMENT;
    private static final long STATE = Checks.ILLEGAL_STATE;
    private static final long NONE = Checks.NO_SUCH_ELEMENT;
    private static final Checks checks = new Checks();

    private FloatSolver solver = new FloatSolver();
    private final String name;

    private PromisesTest(String name) {
        this.name = name + ": ";
    }

    public static void main(String[] args) {
        newObject();
        termsAreNumbered();
        termsAreFoundAgain();
        termsOfEveryKind();
        termsThatAreNotAsTheKindSays();
        theThirteenthTerm();
        claims();
        levels();
        closeTakesClaims();
        checkAndLeastModel();
        modelOutlivesItsClaims();
        modelIsGone();
        variablesOfNoMatter();
        valuesOfEveryKind();
        counts();
        objectsAreApart();
        checks.finish("PromisesTest");
    }

    private void term(int kind, int a, int b, int c, long want) {
        String call = "term(" + kind + ", " + a + ", " + b + ", " + c + ")";
        checks.due(name + call, want, () -> solver.term(kind, a, b, c));
    }

    private void claim(int term, long want) {
        checks.due(name + "claim(" + term + ")", want, () -> solver.claim(term));
    }

    private void open(long want) {
        checks.due(name + "open()", want, () -> solver.open());
    }

    private void close(long want) {
        checks.due(name + "close()", want, () -> solver.close());
    }

    private void check(boolean want) {
        checks.due(name + "check()", want ? 1 : 0, () -> solver.check() ? 1 : 0);
    }

    private void model(int variable, long want) {
        checks.due(name + "model(" + variable + ")", want, () -> solver.model(variable));
    }

    private void value(int term, long want) {
        checks.due(name + "value(" + term + ")", want, () -> solver.value(term));
    }

    private void state(int terms, int claims, int level, int checked) {
        checks.due(name + "terms()", terms, () -> solver.terms());
        checks.due(name + "claims()", claims, () -> solver.claims());
        checks.due(name + "level()", level, () -> solver.level());
        checks.due(name + "checks()", checked, () -> solver.checks());
    }

    private static void newObject() {
        PromisesTest t = new PromisesTest("promise 1");
        t.state(0, 0, 0, 0);
        t.model(0, NONE);
        t.model(1, NONE);
        t.value(0, ARGUMENT);
        t.claim(0, ARGUMENT);
        t.close(STATE);
        t.state(0, 0, 0, 0);
    }

    private static void termsAreNumbered() {
        PromisesTest t = new PromisesTest("promise 2, numbers");
        t.term(2, 0, 0, 0, ARGUMENT);
        t.term(0, 1, 0, 0, 0);
        t.term(1, 0, 0, 0, 1);
        t.term(1, 31, 0, 0, 2);
        t.term(0, 0, 0, 0, 3);
        t.term(2, 4, 0, 0, ARGUMENT);
        t.state(4, 0, 0, 0);
        t.term(2, 3, 0, 0, 4);
        t.state(5, 0, 0, 0);
    }

    private static void termsAreFoundAgain() {
        PromisesTest t = new PromisesTest("promise 2, found again");
        t.term(0, 0, -1, 99, 0);
        t.term(0, 0, 7, Integer.MIN_VALUE, 0);
        t.term(1, 0, 0, 0, 1);
        t.term(1, 0, 5, 5, 1);
        t.term(4, 0, 1, 3, 2);
        t.term(4, 0, 1, -3, 2);
        t.term(4, 1, 0, 3, 3);
        t.term(5, 0, 1, 3, 4);
        t.term(2, 0, 8, 8, 5);
        t.term(2, 0, -8, 0, 5);
        t.term(11, 0, 1, 2, 6);
        t.term(11, 0, 1, 1, 6);
        t.term(9, 6, 0, 1, 7);
        t.term(9, 6, 0, 1, 7);
        t.term(9, 6, 0, 0, 8);
        t.term(9, 6, 1, 0, 9);
        t.term(17, 6, 50, 50, 10);
        t.term(17, 6, 0, 0, 10);
        t.state(11, 0, 0, 0);
    }

    private static void termsOfEveryKind() {
        for (int kind = 2; kind <= 19; kind++) {
            PromisesTest t = new PromisesTest("promise 2, kind " + kind);
            t.term(0, 0, 0, 0, 0);
            t.term(1, 3, 0, 0, 1);
            t.term(16, 1, 0, 0, 2);
            int a = kind == 9 || kind >= 17 ? 2 : 0;
            int b = kind >= 18 ? 2 : 0;
            t.term(kind, a, b, 0, 3);
            boolean givesTruth = kind >= 10;
            t.claim(3, givesTruth ? 1 : ARGUMENT);
            t.term(kind == 17 ? 18 : 17, 3, 3, 0, givesTruth ? 4 : ARGUMENT);
            t.term(3, 3, 0, 0, givesTruth ? ARGUMENT : 4);
        }
    }

    /** Term 0 is a number, term 1 a truth. */
    private static PromisesTest withNumberAndTruth(String name) {
        PromisesTest t = new PromisesTest(name);
        t.term(0, 0, 0, 0, 0);
        t.term(14, 0, 0, 0, 1);
        return t;
    }

    private static void termsThatAreNotAsTheKindSays() {
        PromisesTest t = withNumberAndTruth("promise 2, wrong");
        int[] noKinds = {Integer.MIN_VALUE, -1, 20, 21, Integer.MAX_VALUE};
        for (int kind : noKinds) {
            t.term(kind, 0, 0, 0, ARGUMENT);
        }
        int[] noVariables = {Integer.MIN_VALUE, -1, 2, Integer.MAX_VALUE};
        for (int variable : noVariables) {
            t.term(0, variable, 0, 0, ARGUMENT);
        }
        int[] noNumbers = {Integer.MIN_VALUE, -1, 32, Integer.MAX_VALUE};
        for (int number : noNumbers) {
            t.term(1, number, 0, 0, ARGUMENT);
        }
        int[] notThere = {Integer.MIN_VALUE, -1, 2, 11, 12, Integer.MAX_VALUE};
        for (int kind = 2; kind <= 19; kind++) {
            wrongParts(t, kind, notThere);
        }
        t.state(2, 0, 0, 0);
    }

    private static void wrongParts(PromisesTest t, int kind, int[] notThere) {
        boolean twoParts = kind >= 4 && kind <= 13 || kind >= 18;
        int goodA = kind == 9 || kind >= 17 ? 1 : 0;
        int goodB = kind >= 18 ? 1 : 0;
        t.term(kind, 1 - goodA, goodB, 0, ARGUMENT);
        if (twoParts) {
            t.term(kind, goodA, 1 - goodB, 0, ARGUMENT);
        }
        if (kind == 9) {
            t.term(kind, goodA, goodB, 1, ARGUMENT);
        }
        for (int none : notThere) {
            t.term(kind, none, goodB, 0, ARGUMENT);
            if (twoParts) {
                t.term(kind, goodA, none, 0, ARGUMENT);
            }
            if (kind == 9) {
                t.term(kind, goodA, goodB, none, ARGUMENT);
            }
        }
    }

    private static void theThirteenthTerm() {
        PromisesTest t = new PromisesTest("promise 2, full");
        for (int i = 0; i < 12; i++) {
            t.term(1, 2 * i, i, i, i);
        }
        t.term(1, 1, 0, 0, STATE);
        t.term(0, 0, 0, 0, STATE);
        t.term(1, 22, 3, 3, 11);
        t.term(1, 0, 3, 3, 0);
        t.term(1, 32, 0, 0, ARGUMENT);
        t.term(2, 12, 0, 0, ARGUMENT);
        t.term(20, 0, 0, 0, ARGUMENT);
        t.state(12, 0, 0, 0);
    }

    private static void claims() {
        PromisesTest t = withNumberAndTruth("promise 3");
        t.claim(0, ARGUMENT);
        t.claim(2, ARGUMENT);
        t.claim(-1, ARGUMENT);
        t.claim(Integer.MIN_VALUE, ARGUMENT);
        t.claim(Integer.MAX_VALUE, ARGUMENT);
        t.claim(33, ARGUMENT);
        t.state(2, 0, 0, 0);
        for (int i = 1; i <= 20; i++) {
            t.claim(1, i);
        }
        t.claim(1, STATE);
        t.claim(0, ARGUMENT);
        t.claim(2, ARGUMENT);
        t.state(2, 20, 0, 0);
        t.open(1);
        t.claim(1, STATE);
        t.close(0);
        t.state(2, 20, 0, 0);
    }

    private static void levels() {
        PromisesTest t = new PromisesTest("promises 4, 5 and 12");
        t.close(STATE);
        for (int level = 1; level <= 5; level++) {
            t.open(level);
            t.state(0, 0, level, 0);
        }
        t.open(STATE);
        t.state(0, 0, 5, 0);
        for (int level = 4; level >= 0; level--) {
            t.close(0);
            t.state(0, 0, level, 0);
        }
        t.close(STATE);
        t.state(0, 0, 0, 0);
        t.open(1);
    }

    private static void closeTakesClaims() {
        PromisesTest t = withNumberAndTruth("promise 5");
        t.term(17, 1, 0, 0, 2);
        t.claim(1, 1);
        t.open(1);
        t.claim(1, 2);
        t.claim(1, 3);
        t.open(2);
        t.open(3);
        t.claim(2, 4);
        t.check(false);
        t.close(1);
        t.state(3, 3, 2, 1);
        t.check(true);
        t.close(0);
        t.claim(1, 4);
        t.close(3);
        t.state(3, 1, 0, 2);
        t.close(STATE);
        t.claim(2, 2);
        t.check(false);
        t.state(3, 2, 0, 3);
    }

    private static void checkAndLeastModel() {
        PromisesTest t = new PromisesTest("promises 6 and 7");
        t.term(0, 0, 0, 0, 0);
        t.term(0, 1, 0, 0, 1);
        t.term(12, 0, 1, 0, 2);
        t.claim(2, 1);
        t.check(true);
        t.model(0, 0);
        t.model(1, 1);
        t.term(1, 0, 0, 0, 3);
        t.term(12, 0, 3, 0, 4);
        t.claim(4, 2);
        t.check(true);
        t.model(0, 17);
        t.model(1, 0);
        t.term(12, 1, 0, 0, 5);
        t.open(1);
        t.claim(5, 3);
        t.check(false);
        t.close(1);
        t.term(15, 0, 0, 0, 6);
        t.claim(6, 3);
        t.term(14, 1, 0, 0, 7);
        t.check(true);
        t.model(0, 28);
        t.model(1, 0);
        t.claim(7, 4);
        t.check(false);
        t.state(8, 4, 0, 5);
    }

    private static void modelOutlivesItsClaims() {
        PromisesTest t = withNumberAndTruth("promises 7 and 8, after changes");
        t.open(1);
        t.claim(1, 1);
        t.check(true);
        t.model(0, 13);
        t.close(1);
        t.model(0, 13);
        t.value(1, 1);
        t.term(17, 1, 0, 0, 2);
        t.claim(2, 1);
        t.model(0, 13);
        t.value(2, 0);
        t.term(0, 1, 0, 0, 3);
        t.value(3, 0);
        t.check(true);
        t.model(0, 0);
        t.value(2, 1);
    }

    private static void modelIsGone() {
        PromisesTest t = withNumberAndTruth("promises 7 and 8, no model");
        t.model(0, NONE);
        t.model(1, NONE);
        t.value(0, NONE);
        t.model(2, ARGUMENT);
        t.model(-1, ARGUMENT);
        t.value(2, ARGUMENT);
        t.value(-1, ARGUMENT);
        t.check(true);
        t.model(0, 0);
        t.model(1, 0);
        t.model(2, ARGUMENT);
        t.model(Integer.MIN_VALUE, ARGUMENT);
        t.model(Integer.MAX_VALUE, ARGUMENT);
        t.value(2, ARGUMENT);
        t.value(Integer.MIN_VALUE, ARGUMENT);
        t.value(Integer.MAX_VALUE, ARGUMENT);
        t.term(17, 1, 0, 0, 2);
        t.term(18, 1, 2, 0, 3);
        t.claim(3, 1);
        t.value(3, 0);
        t.check(false);
        t.model(0, NONE);
        t.model(1, NONE);
        t.value(0, NONE);
        t.value(3, NONE);
        t.model(2, ARGUMENT);
        t.value(4, ARGUMENT);
        t.state(4, 1, 0, 2);
    }

    private static void variablesOfNoMatter() {
        PromisesTest t = new PromisesTest("promise 7, a variable of no matter");
        t.term(0, 1, 0, 0, 0);
        t.term(14, 0, 0, 0, 1);
        t.claim(1, 1);
        t.check(true);
        t.model(0, 0);
        t.model(1, 13);
        t.term(0, 0, 0, 0, 2);
        t.term(11, 2, 2, 0, 3);
        t.claim(3, 2);
        t.check(true);
        t.model(0, 0);
        t.model(1, 13);
        t.term(1, 13, 0, 0, 4);
        t.term(10, 2, 4, 0, 5);
        t.open(1);
        t.claim(5, 3);
        t.check(false);
        t.close(1);
        t.term(14, 4, 0, 0, 6);
        t.claim(6, 3);
        t.check(true);
        t.model(1, 13);
    }

    /** The model is 6 and 21: one and a half, and less than nothing by one and a quarter. */
    private static void valuesOfEveryKind() {
        int[] dueOfNumbers = {22, 6, 1, 10, 24, 21, 6};
        int[] dueOfTruths = {0, 0, 0, 0, 0, 0, 0};
        for (int kind = 2; kind <= 16; kind++) {
            PromisesTest t = withModel("promise 8, kind " + kind);
            if (kind == 9) {
                t.term(9, 4, 0, 1, 7);
                t.value(7, 6);
                t.term(17, 4, 0, 0, 8);
                t.term(9, 8, 0, 1, 9);
                t.value(9, 21);
            } else {
                t.term(kind, 0, 1, 0, 7);
                t.value(7, kind < 9 ? dueOfNumbers[kind - 2] : dueOfTruths[kind - 10]);
            }
        }
        PromisesTest t = withModel("promise 8, truths");
        t.term(17, 4, 0, 0, 7);
        t.value(7, 0);
        t.term(18, 4, 7, 0, 8);
        t.value(8, 0);
        t.term(18, 4, 5, 0, 9);
        t.value(9, 1);
        t.term(19, 7, 4, 0, 10);
        t.value(10, 1);
        t.term(19, 7, 8, 0, 11);
        t.value(11, 0);
        t.value(0, 6);
        t.value(1, 21);
        t.value(2, 6);
        t.value(3, 21);
        t.value(6, 1);
    }

    private static PromisesTest withModel(String name) {
        PromisesTest t = new PromisesTest(name);
        t.term(0, 0, 0, 0, 0);
        t.term(0, 1, 0, 0, 1);
        t.term(1, 6, 0, 0, 2);
        t.term(1, 21, 0, 0, 3);
        t.term(10, 0, 2, 0, 4);
        t.term(10, 1, 3, 0, 5);
        t.term(12, 1, 0, 0, 6);
        t.claim(4, 1);
        t.claim(5, 2);
        t.check(true);
        t.model(0, 6);
        t.model(1, 21);
        return t;
    }

    private static void counts() {
        PromisesTest t = withNumberAndTruth("promises 10 to 13");
        t.claim(1, 1);
        t.open(1);
        t.check(true);
        t.check(true);
        t.state(2, 1, 1, 2);
        t.term(0, 0, 0, 0, 0);
        t.term(0, 2, 0, 0, ARGUMENT);
        t.claim(0, ARGUMENT);
        t.model(5, ARGUMENT);
        t.value(5, ARGUMENT);
        t.state(2, 1, 1, 2);
        t.close(0);
        t.close(STATE);
        t.state(2, 1, 0, 2);
        for (int i = 3; i <= 80; i++) {
            t.check(true);
            t.state(2, 1, 0, i);
        }
    }

    private static void objectsAreApart() {
        PromisesTest one = withNumberAndTruth("two objects, the first");
        PromisesTest other = new PromisesTest("two objects, the second");
        one.claim(1, 1);
        one.open(1);
        one.check(true);
        other.state(0, 0, 0, 0);
        other.model(0, NONE);
        other.check(true);
        other.model(0, 0);
        one.model(0, 13);
    }
}
