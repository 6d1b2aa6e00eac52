import java.util.ArrayList;
import java.util.List;

/**
 * "A call that throws changes nothing; of two exceptions the one named first is thrown."
 * Two objects come to the same state, one of them also gets a refused call, and then all that can be asked
 * is asked of both, first what stands and then what further calls make of it.
 */
public final class RefusedCallsTest {
    private static final Checks checks = new Checks();
    private static final int LOWEST = Integer.MIN_VALUE;
    private static final int HIGHEST = Integer.MAX_VALUE;

    private interface Build {
        void on(FloatSolver solver);
    }

    private interface Ask {
        long of(FloatSolver solver);
    }

    private static final class Refused {
        private final String name;
        private final long thrown;
        private final Ask call;

        Refused(String name, long thrown, Ask call) {
            this.name = name;
            this.thrown = thrown;
            this.call = call;
        }
    }

    public static void main(String[] args) {
        changesNothing("a new object", solver -> { }, withoutModel(onLevelZero(wrongArguments())));
        changesNothing("terms alone", RefusedCallsTest::someTerms,
            noValues(withoutModel(onLevelZero(notThere(wrongArguments())))));
        changesNothing("claims on level 0", RefusedCallsTest::someClaims, onLevelZero(notThere(wrongArguments())));
        changesNothing("a model", RefusedCallsTest::aModel, notThere(wrongArguments()));
        changesNothing("a check that answered false", RefusedCallsTest::noModel,
            noValues(withoutModel(notThere(wrongArguments()))));
        changesNothing("all full", RefusedCallsTest::allFull, whenFull(wrongArguments()));
        theOneNamedFirst();
        checks.finish("RefusedCallsTest");
    }

    /** Six terms; the truths 2 and 5 hold together, first of 6 and 7, and neither does with the truth 3. */
    private static void someTerms(FloatSolver solver) {
        solver.term(0, 0, 0, 0);
        solver.term(0, 1, 0, 0);
        solver.term(12, 0, 1, 0);
        solver.term(14, 0, 0, 0);
        solver.term(1, 5, 0, 0);
        solver.term(12, 4, 0, 0);
    }

    private static void someClaims(FloatSolver solver) {
        someTerms(solver);
        solver.claim(2);
        solver.claim(5);
        solver.check();
    }

    private static void aModel(FloatSolver solver) {
        someClaims(solver);
        solver.open();
        solver.open();
        solver.claim(5);
        solver.claim(2);
        solver.check();
    }

    private static void noModel(FloatSolver solver) {
        aModel(solver);
        solver.open();
        solver.claim(3);
        solver.check();
    }

    /** The last claim alone makes the others false, so that it is seen if another one takes its place. */
    private static void allFull(FloatSolver solver) {
        aModel(solver);
        for (int number = 16; number < 22; number++) {
            solver.term(1, number, 0, 0);
        }
        for (int level = 3; level <= 5; level++) {
            solver.open();
            solver.claim(5);
        }
        solver.check();
        for (int claim = 7; claim < 19; claim++) {
            solver.claim(2);
        }
        solver.claim(3);
    }

    /** Calls that no state allows. */
    private static List<Refused> wrongArguments() {
        List<Refused> calls = new ArrayList<>();
        int[] far = {LOWEST, -1, 32, HIGHEST};
        for (int wrong : far) {
            refuse(calls, "term(" + wrong + ", 0, 0, 0)", s -> s.term(wrong, 0, 0, 0));
            refuse(calls, "term(0, " + wrong + ", 0, 0)", s -> s.term(0, wrong, 0, 0));
            refuse(calls, "term(1, " + wrong + ", 0, 0)", s -> s.term(1, wrong, 0, 0));
            refuse(calls, "term(4, " + wrong + ", 0, 0)", s -> s.term(4, wrong, 0, 0));
            refuse(calls, "term(4, 0, " + wrong + ", 0)", s -> s.term(4, 0, wrong, 0));
            refuse(calls, "term(9, 2, 0, " + wrong + ")", s -> s.term(9, 2, 0, wrong));
            refuse(calls, "claim(" + wrong + ")", s -> s.claim(wrong));
            refuse(calls, "model(" + wrong + ")", s -> s.model(wrong));
            refuse(calls, "value(" + wrong + ")", s -> s.value(wrong));
            refuse(calls, "reckon(" + wrong + ", 0, 0)", s -> s.reckon(wrong, 0, 0));
            refuse(calls, "reckon(4, " + wrong + ", 0)", s -> s.reckon(4, wrong, 0));
            refuse(calls, "reckon(4, 0, " + wrong + ")", s -> s.reckon(4, 0, wrong));
        }
        refuse(calls, "term(20, 0, 0, 0)", s -> s.term(20, 0, 0, 0));
        refuse(calls, "term(17, 0, 0, 0)", s -> s.term(17, 0, 0, 0));
        refuse(calls, "term(4, 0, 2, 0)", s -> s.term(4, 0, 2, 0));
        refuse(calls, "term(9, 0, 0, 0)", s -> s.term(9, 0, 0, 0));
        refuse(calls, "term(9, 2, 0, 2)", s -> s.term(9, 2, 0, 2));
        refuse(calls, "term(2, 12, 0, 0)", s -> s.term(2, 12, 0, 0));
        refuse(calls, "claim(0)", s -> s.claim(0));
        refuse(calls, "claim(12)", s -> s.claim(12));
        refuse(calls, "model(2)", s -> s.model(2));
        refuse(calls, "value(12)", s -> s.value(12));
        refuse(calls, "reckon(9, 0, 0)", s -> s.reckon(9, 0, 0));
        return calls;
    }

    private static void refuse(List<Refused> calls, String name, Ask call) {
        calls.add(new Refused(name, Checks.ILLEGAL_ARGUMENT, call));
    }

    private static List<Refused> onLevelZero(List<Refused> calls) {
        calls.add(new Refused("close()", Checks.ILLEGAL_STATE, s -> s.close()));
        return calls;
    }

    private static List<Refused> withoutModel(List<Refused> calls) {
        calls.add(new Refused("model(0)", Checks.NO_SUCH_ELEMENT, s -> s.model(0)));
        calls.add(new Refused("model(1)", Checks.NO_SUCH_ELEMENT, s -> s.model(1)));
        return calls;
    }

    private static List<Refused> noValues(List<Refused> calls) {
        calls.add(new Refused("value(0)", Checks.NO_SUCH_ELEMENT, s -> s.value(0)));
        calls.add(new Refused("value(5)", Checks.NO_SUCH_ELEMENT, s -> s.value(5)));
        return calls;
    }

    /** For states with six terms. */
    private static List<Refused> notThere(List<Refused> calls) {
        refuse(calls, "term(2, 6, 0, 0)", s -> s.term(2, 6, 0, 0));
        refuse(calls, "claim(6)", s -> s.claim(6));
        refuse(calls, "value(6)", s -> s.value(6));
        return calls;
    }

    private static List<Refused> whenFull(List<Refused> calls) {
        calls.add(new Refused("term(1, 9, 0, 0)", Checks.ILLEGAL_STATE, s -> s.term(1, 9, 0, 0)));
        calls.add(new Refused("term(19, 2, 3, 0)", Checks.ILLEGAL_STATE, s -> s.term(19, 2, 3, 0)));
        calls.add(new Refused("claim(2)", Checks.ILLEGAL_STATE, s -> s.claim(2)));
        calls.add(new Refused("open()", Checks.ILLEGAL_STATE, s -> s.open()));
        return calls;
    }

    private static void changesNothing(String state, Build build, List<Refused> calls) {
        for (Refused refused : calls) {
            FloatSolver plain = new FloatSolver();
            FloatSolver tried = new FloatSolver();
            build.on(plain);
            build.on(tried);
            String name = state + ", " + refused.name;
            checks.due(name, refused.thrown, () -> refused.call.of(tried));
            checks.due(name + " once more", refused.thrown, () -> refused.call.of(tried));
            List<Long> due = afterwards(plain);
            List<Long> got = afterwards(tried);
            checks.isTrue(name + " changes what is answered later: " + got + ", due is " + due, got.equals(due));
        }
    }

    private static List<Long> afterwards(FloatSolver solver) {
        List<Long> answers = new ArrayList<>();
        askAll(solver, answers);
        answers.add(Checks.of(() -> solver.term(0, 0, 0, 0)));
        answers.add(Checks.of(() -> solver.term(16, 0, 0, 0)));
        answers.add(Checks.of(() -> solver.term(1, 31, 0, 0)));
        askAll(solver, answers);
        for (int i = 0; i < 6; i++) {
            answers.add(solver.check() ? 1L : 0L);
            askAll(solver, answers);
            answers.add(Checks.of(() -> solver.close()));
        }
        for (int i = 0; i < 6; i++) {
            answers.add(Checks.of(() -> solver.open()));
            answers.add(Checks.of(() -> solver.claim(2)));
        }
        askAll(solver, answers);
        return answers;
    }

    private static void askAll(FloatSolver solver, List<Long> answers) {
        answers.add((long) solver.terms());
        answers.add((long) solver.claims());
        answers.add((long) solver.level());
        answers.add((long) solver.checks());
        answers.add(Checks.of(() -> solver.model(0)));
        answers.add(Checks.of(() -> solver.model(1)));
        for (int term = 0; term <= 12; term++) {
            int t = term;
            answers.add(Checks.of(() -> solver.value(t)));
        }
    }

    /** Each call is wrong in two ways at once; the other way alone is tried in BoundariesTest. */
    private static void theOneNamedFirst() {
        FloatSolver full = new FloatSolver();
        allFull(full);
        first("term, of no kind and the thirteenth", () -> full.term(20, 0, 0, 0));
        first("term, of a part not there and the thirteenth", () -> full.term(2, 12, 0, 0));
        first("term, of no number and the thirteenth", () -> full.term(1, 32, 0, 0));
        first("term, of no variable and the thirteenth", () -> full.term(0, 2, 0, 0));
        first("term, of a truth for a number and the thirteenth", () -> full.term(3, 2, 0, 0));
        first("claim, of no truth and the twenty-first", () -> full.claim(0));
        first("claim, of no term and the twenty-first", () -> full.claim(12));
        FloatSolver fresh = new FloatSolver();
        first("model, of no variable and with no check", () -> fresh.model(2));
        first("model, of a variable below 0 and with no check", () -> fresh.model(-1));
        first("value, of no term and with no check", () -> fresh.value(0));
        FloatSolver failed = new FloatSolver();
        noModel(failed);
        first("model, of no variable after a false check", () -> failed.model(2));
        first("value, of no term after a false check", () -> failed.value(6));
        checks.due("value, of a term after a false check", Checks.NO_SUCH_ELEMENT, () -> failed.value(5));
    }

    private static void first(String name, Checks.Call call) {
        checks.due("of two exceptions the one named first: " + name, Checks.ILLEGAL_ARGUMENT, call);
    }
}
