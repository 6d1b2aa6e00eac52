/** The promises one by one on ordinary runs; the boundaries are in BoundariesTest. */
public final class PromisesTest {
    private static final Checks checks = new Checks();

    public static void main(String[] args) {
        termsAreMadeAndFound();
        claimsAndLevels();
        checkAndLeastModel();
        modelAfterChanges();
        variablesOfNoMatter();
        choose();
        truths();
        everyOperationAsATerm();
        termsOfTerms();
        objectsAreApart();
        checks.finish("PromisesTest");
    }

    private static void termsAreMadeAndFound() {
        Run run = new Run(checks, "promise 2");
        run.term(0, 0, -1, 99, 0);
        run.term(0, 0, 7, Integer.MIN_VALUE, 0);
        run.term(1, 0, 0, 0, 1);
        run.term(1, 0, 5, 5, 1);
        run.term(4, 0, 1, 3, 2);
        run.term(4, 0, 1, -3, 2);
        run.term(4, 1, 0, 3, 3);
        run.term(5, 0, 1, 3, 4);
        run.term(2, 0, 8, 8, 5);
        run.term(2, 0, -8, 0, 5);
        run.term(11, 0, 1, 2, 6);
        run.term(9, 6, 0, 1, 7);
        run.term(9, 6, 0, 1, 7);
        run.term(9, 6, 1, 0, 8);
        run.term(17, 6, 50, 50, 9);
        run.term(17, 6, 0, 0, 9);
        run.state(10, 0, 0, 0);
    }

    private static void claimsAndLevels() {
        Run run = Run.withTruths(checks, "promises 3 to 5");
        run.claim(1, 1);
        run.open(1);
        run.claim(1, 2);
        run.claim(1, 3);
        run.open(2);
        run.open(3);
        run.claim(2, 4);
        run.check(false);
        run.close(1);
        run.state(3, 3, 2, 1);
        run.check(true);
        run.close(0);
        run.claim(1, 4);
        run.close(3);
        run.state(3, 1, 0, 2);
        run.claim(2, 2);
        run.check(false);
        run.state(3, 2, 0, 3);
    }

    private static void checkAndLeastModel() {
        Run run = new Run(checks, "promises 6 and 7");
        run.term(0, 0, 0, 0, 0);
        run.term(0, 1, 0, 0, 1);
        run.term(12, 0, 1, 0, 2);
        run.claim(2, 1);
        run.check(true);
        run.models(0, 1);
        run.term(1, 0, 0, 0, 3);
        run.term(12, 0, 3, 0, 4);
        run.claim(4, 2);
        run.check(true);
        run.models(17, 0);
        run.term(12, 1, 0, 0, 5);
        run.open(1);
        run.claim(5, 3);
        run.check(false);
        run.close(1);
        run.term(15, 0, 0, 0, 6);
        run.claim(6, 3);
        run.term(14, 1, 0, 0, 7);
        run.check(true);
        run.models(28, 0);
        run.claim(7, 4);
        run.check(false);
        run.state(8, 4, 0, 5);
    }

    private static void modelAfterChanges() {
        Run run = Run.withTruths(checks, "promises 7 and 8");
        run.open(1);
        run.claim(1, 1);
        run.check(true);
        run.model(0, 13);
        run.close(1);
        run.model(0, 13);
        run.value(1, 1);
        run.claim(2, 1);
        run.model(0, 13);
        run.value(2, 0);
        run.check(true);
        run.model(0, 0);
        run.value(2, 1);
    }

    private static void variablesOfNoMatter() {
        Run run = new Run(checks, "promise 7, a variable of no matter");
        run.term(0, 1, 0, 0, 0);
        run.term(14, 0, 0, 0, 1);
        run.claim(1, 1);
        run.check(true);
        run.models(0, 13);
        run.term(0, 0, 0, 0, 2);
        run.term(11, 2, 2, 0, 3);
        run.claim(3, 2);
        run.check(true);
        run.models(0, 13);
        run.term(1, 13, 0, 0, 4);
        run.term(10, 2, 4, 0, 5);
        run.open(1);
        run.claim(5, 3);
        run.check(false);
        run.close(1);
        run.term(14, 4, 0, 0, 6);
        run.claim(6, 3);
        run.check(true);
        run.models(0, 13);
    }

    private static void choose() {
        Run run = Run.withModel(checks, "promise 8, CHOOSE", 6, 21);
        run.term(17, 4, 0, 0, 6);
        run.term(9, 4, 0, 1, 7);
        run.term(9, 6, 0, 1, 8);
        run.term(9, 4, 7, 8, 9);
        run.term(9, 6, 7, 8, 10);
        run.value(7, 6);
        run.value(8, 21);
        run.value(9, 6);
        run.value(10, 21);
    }

    private static void truths() {
        Run run = Run.withModel(checks, "promise 8, truths", 6, 21);
        run.term(17, 4, 0, 0, 6);
        run.term(18, 4, 6, 0, 7);
        run.term(18, 4, 5, 0, 8);
        run.term(19, 6, 4, 0, 9);
        run.term(19, 6, 7, 0, 10);
        run.term(18, 6, 5, 0, 11);
        run.value(6, 0);
        run.value(7, 0);
        run.value(8, 1);
        run.value(9, 1);
        run.value(10, 0);
        run.value(11, 0);
    }

    private static void everyOperationAsATerm() {
        for (int x = 0; x < 32; x++) {
            for (int y = 0; y < 32; y++) {
                operationsAsTerms(x, y, new int[] {2, 3, 4, 5, 6, 7});
                operationsAsTerms(x, y, new int[] {8, 11, 12, 13, 14, 15});
                operationsAsTerms(x, y, new int[] {10, 16});
            }
        }
    }

    private static void operationsAsTerms(int x, int y, int[] kinds) {
        Run run = Run.withModel(checks, "promise 8, " + x + " and " + y, x, y);
        int next = x == y ? 5 : 6;
        for (int kind : kinds) {
            run.term(kind, 0, 1, 0, next);
            run.value(next, Oracle.operate(kind, Run.leastLike(x), Run.leastLike(y)));
            next++;
        }
    }

    /** The second is to be twice the first, and their sum 14 quarters (there are none) or 12 (4 and 8 quarters). */
    private static void termsOfTerms() {
        Run run = new Run(checks, "promises 6 to 8, terms of terms");
        run.term(0, 0, 0, 0, 0);
        run.term(0, 1, 0, 0, 1);
        run.term(4, 0, 1, 0, 2);
        run.term(4, 0, 0, 0, 3);
        run.term(10, 1, 3, 0, 4);
        run.term(1, 11, 0, 0, 5);
        run.term(11, 2, 5, 0, 6);
        run.term(18, 4, 6, 0, 7);
        run.term(1, 10, 0, 0, 8);
        run.term(11, 2, 8, 0, 9);
        run.term(18, 4, 9, 0, 10);
        run.open(1);
        run.claim(7, 1);
        run.check(false);
        run.close(1);
        run.claim(10, 1);
        run.check(true);
        run.models(4, 8);
        run.value(2, 10);
        run.value(3, 8);
        run.value(7, 0);
        run.value(10, 1);
    }

    private static void objectsAreApart() {
        Run one = Run.withTruths(checks, "two objects, the first");
        Run other = new Run(checks, "two objects, the second");
        one.claim(1, 1);
        one.open(1);
        one.check(true);
        other.state(0, 0, 0, 0);
        other.models(Run.NONE, Run.NONE);
        other.check(true);
        other.model(0, 0);
        one.model(0, 13);
    }
}
