/** Promise 9: every operation on every pair of numbers, the rows that the document's words settle, wrong inputs. */
public final class ReckonTest {
    private static final int[] OPERATIONS = {2, 3, 4, 5, 6, 7, 8, 10, 11, 12, 13, 14, 15, 16};
    private static final int[] OF_ONE = {2, 3, 14, 15, 16};
    /** Of the 512 calls that the document lets an object have some are left for the end. */
    private static final int MOST_CALLS = 500;
    private static final Checks checks = new Checks();
    private static FloatSolver solver = new FloatSolver();
    private static int calls;

    public static void main(String[] args) {
        everyPair();
        sums();
        products();
        comparisons();
        signsAndExtremes();
        wrongInputs();
        leavesTheStateAlone();
        checks.finish("ReckonTest");
    }

    private static void row(int kind, int x, int y, long want) {
        calls++;
        if (calls == MOST_CALLS) {
            calls = 0;
            solver = new FloatSolver();
        }
        checks.due("reckon(" + kind + ", " + x + ", " + y + ")", want, () -> solver.reckon(kind, x, y));
    }

    private static void everyPair() {
        for (int kind : OPERATIONS) {
            for (int x = 0; x < 32; x++) {
                for (int y = 0; y < 32; y++) {
                    row(kind, x, y, Oracle.operate(kind, x, y));
                }
            }
        }
    }

    private static void sums() {
        row(4, 1, 2, 3);
        row(4, 3, 1, 4);
        row(4, 8, 1, 8);    // 9 quarters lie between 8 (f 0) and 10 (f 1)
        row(4, 9, 1, 10);   // 11 lie between 10 (f 1) and 12 (f 2)
        row(4, 10, 1, 10);  // 13 lie between 12 (f 2) and 14 (f 3)
        row(4, 11, 1, 12);  // 15 lie between 14 (f 3) and 16 (f 0)
        row(4, 27, 17, 28);
        row(4, 0, 0, 0);
        row(4, 0, 16, 0);
        row(4, 16, 16, 16);
        row(4, 21, 5, 0);
        row(4, 12, 12, 12);
        row(4, 28, 28, 28);
        row(4, 12, 28, 13);
        row(4, 28, 3, 28);
        row(4, 30, 1, 13);
        row(4, 1, 31, 13);
        row(5, 28, 28, 13);
        row(5, 12, 28, 12);
        row(5, 16, 0, 16);
        row(5, 16, 16, 0);
        row(5, 7, 7, 0);
        row(5, 1, 30, 13);
    }

    private static void products() {
        row(6, 4, 11, 11);
        row(6, 1, 1, 0);    // a sixteenth
        row(6, 1, 2, 0);    // two sixteenths: half a quarter, to the even 0
        row(6, 17, 1, 16);
        row(6, 3, 2, 2);    // 1 1/2 quarters, to the even 2
        row(6, 2, 5, 2);    // 2 1/2
        row(6, 2, 7, 4);    // 3 1/2, to 4 quarters
        row(6, 6, 5, 8);    // 7 1/2, to 8 quarters
        row(6, 5, 7, 8);    // 8 3/4
        row(6, 6, 6, 8);    // 9
        row(6, 6, 10, 12);  // 18
        row(6, 5, 10, 12);  // 15, to 16
        row(6, 28, 20, 12);
        row(6, 12, 16, 13);
        row(6, 0, 28, 13);
        row(6, 0, 16, 16);
        row(6, 13, 0, 13);
        row(6, 0, 29, 13);
    }

    private static void comparisons() {
        row(10, 13, 30, 1);
        row(10, 0, 16, 0);
        row(10, 28, 28, 1);
        row(11, 0, 16, 1);
        row(11, 14, 14, 0);
        row(11, 12, 28, 0);
        row(12, 28, 27, 1);
        row(12, 11, 12, 1);
        row(12, 12, 12, 0);
        row(12, 16, 0, 0);
        row(12, 20, 16, 1);
        row(12, 13, 12, 0);
        row(12, 28, 13, 0);
        row(13, 0, 16, 1);
        row(13, 16, 0, 1);
        row(13, 13, 13, 0);
        row(13, 12, 12, 1);
        row(14, 12, 13, 0);
        row(14, 29, 0, 1);
        row(15, 12, 0, 1);
        row(15, 28, 0, 1);
        row(15, 13, 12, 0);
        row(16, 16, 1, 1);
        row(16, 1, 0, 0);
    }

    private static void signsAndExtremes() {
        row(2, 0, 0, 16);
        row(2, 31, 0, 15);
        row(3, 16, 0, 0);
        row(3, 29, 0, 13);
        row(7, 13, 14, 14);
        row(7, 5, 13, 5);
        row(7, 0, 16, 0);
        row(7, 16, 0, 16);
        row(7, 3, 28, 28);
        row(8, 13, 14, 14);
        row(8, 5, 29, 5);
        row(8, 0, 16, 0);
        row(8, 16, 0, 16);
        row(8, 3, 12, 12);
    }

    private static void wrongInputs() {
        int[] noKinds = {Integer.MIN_VALUE, -1, 0, 1, 9, 17, 18, 19, 20, Integer.MAX_VALUE};
        int[] noNumbers = {Integer.MIN_VALUE, -1, 32, 33, Integer.MAX_VALUE};
        for (int kind : noKinds) {
            row(kind, 0, 0, Checks.ILLEGAL_ARGUMENT);
        }
        for (int number : noNumbers) {
            for (int kind : OPERATIONS) {
                row(kind, number, 0, Checks.ILLEGAL_ARGUMENT);
                row(kind, 0, number, Checks.ILLEGAL_ARGUMENT);
            }
        }
        for (int kind : OF_ONE) {
            row(kind, 5, 31, Oracle.operate(kind, 5, 0));
        }
    }

    private static void leavesTheStateAlone() {
        checks.due("terms() after reckon", 0, () -> solver.terms());
        checks.due("claims() after reckon", 0, () -> solver.claims());
        checks.due("level() after reckon", 0, () -> solver.level());
        checks.due("checks() after reckon", 0, () -> solver.checks());
        checks.due("model(0) after reckon", Checks.NO_SUCH_ELEMENT, () -> solver.model(0));
    }
}
