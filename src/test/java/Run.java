/** A run of calls on one object, each with the answer that is due; the name tells what the run is for. */
final class Run {
    static final long ARGUMENT = Checks.ILLEGAL_ARGUMENT;
    static final long STATE = Checks.ILLEGAL_STATE;
    static final long NONE = Checks.NO_SUCH_ELEMENT;

    private final FloatSolver solver = new FloatSolver();
    private final Checks checks;
    private final String name;

    Run(Checks checks, String name) {
        this.checks = checks;
        this.name = name + ": ";
    }

    /** Term 0 is variable 0, a number; term 1 is a truth, that it is NAN; term 2 is that it is not. */
    static Run withTruths(Checks checks, String name) {
        Run run = new Run(checks, name);
        run.term(0, 0, 0, 0, 0);
        run.term(14, 0, 0, 0, 1);
        run.term(17, 1, 0, 0, 2);
        return run;
    }

    /**
     * Variables 0 and 1 are the terms 0 and 1; claims that they are x and y, and a check of these.
     * There are six terms then, or five when x and y are alike.
     */
    static Run withModel(Checks checks, String name, int x, int y) {
        Run run = new Run(checks, name);
        int alike = x == y ? 1 : 0;
        run.term(0, 0, 0, 0, 0);
        run.term(0, 1, 0, 0, 1);
        run.term(1, x, 0, 0, 2);
        run.term(1, y, 0, 0, 3 - alike);
        run.term(10, 0, 2, 0, 4 - alike);
        run.term(10, 1, 3 - alike, 0, 5 - alike);
        run.claim(4 - alike, 1);
        run.claim(5 - alike, 2);
        run.check(true);
        run.models(leastLike(x), leastLike(y));
        return run;
    }

    /** The least number that SAME does not tell from this one. */
    static int leastLike(int number) {
        return Oracle.nan(number) ? 13 : number;
    }

    void term(int kind, int a, int b, int c, long want) {
        String call = "term(" + kind + ", " + a + ", " + b + ", " + c + ")";
        checks.due(name + call, want, () -> solver.term(kind, a, b, c));
    }

    void claim(int term, long want) {
        checks.due(name + "claim(" + term + ")", want, () -> solver.claim(term));
    }

    void open(long want) {
        checks.due(name + "open()", want, () -> solver.open());
    }

    void close(long want) {
        checks.due(name + "close()", want, () -> solver.close());
    }

    void check(boolean want) {
        checks.due(name + "check()", want ? 1 : 0, () -> solver.check() ? 1 : 0);
    }

    void model(int variable, long want) {
        checks.due(name + "model(" + variable + ")", want, () -> solver.model(variable));
    }

    void models(long first, long second) {
        model(0, first);
        model(1, second);
    }

    void value(int term, long want) {
        checks.due(name + "value(" + term + ")", want, () -> solver.value(term));
    }

    void reckon(int kind, int x, int y, long want) {
        checks.due(name + "reckon(" + kind + ", " + x + ", " + y + ")", want, () -> solver.reckon(kind, x, y));
    }

    void terms(int want) {
        checks.due(name + "terms()", want, () -> solver.terms());
    }

    void claims(int want) {
        checks.due(name + "claims()", want, () -> solver.claims());
    }

    void level(int want) {
        checks.due(name + "level()", want, () -> solver.level());
    }

    void checks(int want) {
        checks.due(name + "checks()", want, () -> solver.checks());
    }

    void state(int terms, int claims, int level, int checked) {
        terms(terms);
        claims(claims);
        level(level);
        checks(checked);
    }
}
