/**
 * Promise 9 and what the section "Terms" says of numbers, rounding and operations: a test for each of its
 * sentences, and at the end every operation on every pair of numbers against the oracle.
 */
public final class ReckonTest {
    private static final int NEGATE = 2;
    private static final int ABSOLUTE = 3;
    private static final int ADD = 4;
    private static final int SUBTRACT = 5;
    private static final int MULTIPLY = 6;
    private static final int LEAST = 7;
    private static final int GREATEST = 8;
    private static final int SAME = 10;
    private static final int EQUAL = 11;
    private static final int LESS = 12;
    private static final int ATMOST = 13;
    private static final int ISNAN = 14;
    private static final int ISINFINITE = 15;
    private static final int ISZERO = 16;

    private static final int[] OPERATIONS = {2, 3, 4, 5, 6, 7, 8, 10, 11, 12, 13, 14, 15, 16};
    private static final int[] OF_ONE = {NEGATE, ABSOLUTE, ISNAN, ISINFINITE, ISZERO};
    private static final int[] NANS = {13, 14, 15, 29, 30, 31};
    private static final int[] OTHERS_THAN_NAN = {
        0, 1, 2, 3, 4, 5, 6, 7, 8, 9, 10, 11, 12, 16, 17, 18, 19, 20, 21, 22, 23, 24, 25, 26, 27, 28
    };
    /** The finite numbers with sign 0 are 0 .. 11. */
    private static final int[] QUARTERS = {0, 1, 2, 3, 4, 5, 6, 7, 8, 10, 12, 14};
    /** An object is good for 512 calls. */
    private static final int MOST_CALLS = 512;

    private static final Checks checks = new Checks();
    private static String sentence;
    private static Run run;
    private static int calls;

    public static void main(String[] args) {
        numbers();
        rounding();
        signsAlone();
        sums();
        products();
        comparisons();
        leastAndGreatest();
        callsOfReckon();
        everyPair();
        checks.finish("ReckonTest");
    }

    private static void begin(String words) {
        sentence = words;
        run = new Run(checks, words);
        calls = 0;
    }

    private static void row(int kind, int x, int y, long want) {
        if (calls == MOST_CALLS) {
            begin(sentence);
        }
        calls++;
        run.reckon(kind, x, y, want);
    }

    /** For operations in which the two numbers may change places. */
    private static void bothWays(int kind, int x, int y, long want) {
        row(kind, x, y, want);
        row(kind, y, x, want);
    }

    private static void numbers() {
        nanAndInfinite();
        magnitudes();
        valueWithASign();
        zeros();
    }

    private static void nanAndInfinite() {
        begin("with e 3 it is NAN when f is not 0, INFINITE otherwise");
        for (int x : OTHERS_THAN_NAN) {
            row(ISNAN, x, 13, 0);
            row(ISINFINITE, x, 12, x == 12 || x == 28 ? 1 : 0);
        }
        for (int x : NANS) {
            row(ISNAN, x, 0, 1);
            row(ISINFINITE, x, 12, 0);
        }
    }

    private static void magnitudes() {
        begin("with e 0 its MAGNITUDE is f quarters, with e 1 4 + f, with e 2 8 + 2 f quarters");
        for (int x = 0; x < 12; x++) {
            for (int y = 0; y < 12; y++) {
                row(LESS, x, y, QUARTERS[x] < QUARTERS[y] ? 1 : 0);
            }
        }
        for (int x = 0; x < 8; x++) {
            row(ADD, x, 1, x + 1);
        }
        for (int x = 8; x < 12; x++) {
            row(ADD, x, 2, x + 1);
            row(SUBTRACT, x, 8, QUARTERS[x] - 8);
        }
    }

    private static void valueWithASign() {
        begin("its value is that, or less than 0 by as much when the sign is 1");
        for (int x = 1; x < 12; x++) {
            bothWays(ADD, x, 16 + x, 0);
            row(LESS, 16 + x, 0, 1);
            row(LESS, 0, 16 + x, 0);
            for (int y = 1; y < 12; y++) {
                row(LESS, 16 + x, 16 + y, QUARTERS[y] < QUARTERS[x] ? 1 : 0);
                row(LESS, 16 + x, y, 1);
                row(LESS, y, 16 + x, 0);
            }
        }
    }

    private static void zeros() {
        begin("ZEROS are 0 and 16");
        for (int x = 0; x < 32; x++) {
            row(ISZERO, x, 0, x == 0 || x == 16 ? 1 : 0);
        }
    }

    private static void rounding() {
        nearest();
        twoAsNear();
        sixteenQuarters();
    }

    private static void nearest() {
        begin("the nearest of the magnitudes of numbers and of 16 quarters");
        row(MULTIPLY, 1, 1, 0);   // 1/4 of a quarter
        row(MULTIPLY, 1, 3, 1);   // 3/4
        row(MULTIPLY, 1, 5, 1);   // 5/4
        row(MULTIPLY, 1, 7, 2);   // 7/4
        row(MULTIPLY, 3, 3, 2);   // 9/4
        row(MULTIPLY, 3, 5, 4);   // 15/4
        row(MULTIPLY, 3, 7, 5);   // 21/4
        row(MULTIPLY, 5, 5, 6);   // 25/4
        row(MULTIPLY, 5, 7, 8);   // 35/4: the nearest is 8, as 9 is none
        row(MULTIPLY, 6, 7, 9);   // 42/4: 10
        row(MULTIPLY, 7, 7, 10);  // 49/4: 12
        row(MULTIPLY, 5, 9, 10);  // 50/4: 12
        row(MULTIPLY, 4, 11, 11); // 56/4: 14 as it is
        row(MULTIPLY, 7, 9, 12);  // 70/4: 17 1/2
    }

    private static void twoAsNear() {
        begin("of two that are as near the one with an even f (that of 16 quarters is 0)");
        row(MULTIPLY, 1, 2, 0);   // 1/2: of 0 and 1
        row(MULTIPLY, 2, 3, 2);   // 1 1/2: of 1 and 2
        row(MULTIPLY, 2, 5, 2);   // 2 1/2: of 2 and 3
        row(MULTIPLY, 2, 7, 4);   // 3 1/2: of 3 and 4
        row(MULTIPLY, 3, 6, 4);   // 4 1/2: of 4 and 5
        row(MULTIPLY, 5, 6, 8);   // 7 1/2: of 7 and 8
        row(ADD, 8, 1, 8);        // 9: of 8 (f 0) and 10 (f 1)
        row(ADD, 9, 1, 10);       // 11: of 10 (f 1) and 12 (f 2)
        row(ADD, 10, 1, 10);      // 13: of 12 (f 2) and 14 (f 3)
        row(ADD, 11, 1, 12);      // 15: of 14 (f 3) and 16 (f 0)
        row(MULTIPLY, 5, 10, 12); // 15 once more
    }

    private static void sixteenQuarters() {
        begin("16 quarters or more become infinite");
        row(ADD, 8, 8, 12);
        row(ADD, 10, 4, 12);
        row(ADD, 11, 2, 12);
        row(ADD, 11, 3, 12);
        row(ADD, 11, 11, 12);
        row(ADD, 27, 18, 28);
        row(ADD, 27, 27, 28);
        row(SUBTRACT, 24, 8, 28);
        row(MULTIPLY, 8, 8, 12);
        row(MULTIPLY, 11, 11, 12);
        row(MULTIPLY, 11, 27, 28);
        row(ADD, 11, 0, 11);
        row(ADD, 8, 6, 11);
        row(ADD, 24, 22, 27);
    }

    private static void signsAlone() {
        begin("NEGATE: the sign is the other one (of a NAN, too)");
        for (int x = 0; x < 16; x++) {
            row(NEGATE, x, 0, x + 16);
            row(NEGATE, x + 16, 0, x);
        }
        begin("ABSOLUTE: the sign is 0");
        for (int x = 0; x < 16; x++) {
            row(ABSOLUTE, x, 0, x);
            row(ABSOLUTE, x + 16, 0, x);
        }
    }

    private static void sums() {
        begin("ADD: 13 when one is NAN");
        withNan(ADD);
        begin("ADD: 13 when both are infinite with unlike signs");
        bothWays(ADD, 12, 28, 13);
        sumsWithInfinite();
        sumsWithTheirSigns();
        sumsOfZero();
        differences();
    }

    private static void withNan(int kind) {
        for (int nan : NANS) {
            for (int x = 0; x < 32; x++) {
                bothWays(kind, nan, x, 13);
            }
        }
    }

    private static void sumsWithInfinite() {
        begin("ADD: infinite with the sign of the one that is");
        row(ADD, 12, 12, 12);
        row(ADD, 28, 28, 28);
        for (int x = 0; x < 12; x++) {
            bothWays(ADD, 12, x, 12);
            bothWays(ADD, 12, x + 16, 12);
            bothWays(ADD, 28, x, 28);
            bothWays(ADD, 28, x + 16, 28);
        }
    }

    private static void sumsWithTheirSigns() {
        begin("ADD: the exact sum, its magnitude rounded, with its sign");
        bothWays(ADD, 1, 2, 3);
        bothWays(ADD, 5, 22, 17);
        bothWays(ADD, 6, 21, 1);
        bothWays(ADD, 24, 17, 24);
        bothWays(ADD, 25, 17, 26);
        bothWays(ADD, 27, 17, 28);
        bothWays(ADD, 11, 17, 10); // 13, to the even f of 12
        bothWays(ADD, 27, 1, 26);
        bothWays(ADD, 9, 17, 8);   // 9, to the even f of 8
    }

    private static void sumsOfZero() {
        begin("ADD, when the sum is 0: 16 when both are zeros with sign 1, otherwise 0");
        row(ADD, 16, 16, 16);
        row(ADD, 0, 0, 0);
        bothWays(ADD, 0, 16, 0);
        for (int x = 1; x < 12; x++) {
            bothWays(ADD, x, x + 16, 0);
        }
        for (int x = 1; x < 12; x++) {
            bothWays(ADD, x + 16, 16, x + 16);
        }
    }

    private static void differences() {
        begin("SUBTRACT x y: ADD of x and the NEGATE of y");
        withNan(SUBTRACT);
        row(SUBTRACT, 12, 12, 13);
        row(SUBTRACT, 28, 28, 13);
        row(SUBTRACT, 12, 28, 12);
        row(SUBTRACT, 28, 12, 28);
        row(SUBTRACT, 3, 12, 28);
        row(SUBTRACT, 3, 28, 12);
        row(SUBTRACT, 0, 0, 0);
        row(SUBTRACT, 16, 16, 0);
        row(SUBTRACT, 0, 16, 0);
        row(SUBTRACT, 16, 0, 16);
        row(SUBTRACT, 7, 7, 0);
        row(SUBTRACT, 23, 23, 0);
        row(SUBTRACT, 1, 4, 19);
        row(SUBTRACT, 4, 1, 3);
        row(SUBTRACT, 11, 17, 12);
    }

    private static void products() {
        begin("MULTIPLY: 13 when one is NAN");
        withNan(MULTIPLY);
        productsOfInfiniteAndZero();
        signsOfProducts();
        infiniteProducts();
        roundedProducts();
    }

    private static void productsOfInfiniteAndZero() {
        begin("MULTIPLY: 13 when one is infinite and the other one a zero");
        bothWays(MULTIPLY, 12, 0, 13);
        bothWays(MULTIPLY, 12, 16, 13);
        bothWays(MULTIPLY, 28, 0, 13);
        bothWays(MULTIPLY, 28, 16, 13);
    }

    private static void signsOfProducts() {
        begin("MULTIPLY: the sign is 1 when just one has sign 1");
        row(MULTIPLY, 0, 0, 0);
        row(MULTIPLY, 16, 16, 0);
        bothWays(MULTIPLY, 0, 16, 16);
        bothWays(MULTIPLY, 5, 16, 16);
        bothWays(MULTIPLY, 21, 16, 0);
        bothWays(MULTIPLY, 21, 0, 16);
        bothWays(MULTIPLY, 17, 1, 16);  // rounded to 0, and still with its sign
        row(MULTIPLY, 17, 17, 0);
        bothWays(MULTIPLY, 20, 6, 22);
        row(MULTIPLY, 20, 22, 6);
    }

    private static void infiniteProducts() {
        begin("MULTIPLY: infinite when one is");
        row(MULTIPLY, 12, 12, 12);
        row(MULTIPLY, 28, 28, 12);
        bothWays(MULTIPLY, 12, 28, 28);
        for (int x = 1; x < 12; x++) {
            bothWays(MULTIPLY, 12, x, 12);
            bothWays(MULTIPLY, 12, x + 16, 28);
            bothWays(MULTIPLY, 28, x, 28);
            bothWays(MULTIPLY, 28, x + 16, 12);
        }
    }

    private static void roundedProducts() {
        begin("MULTIPLY: else the exact product of the magnitudes, rounded");
        for (int x = 0; x < 12; x++) {
            bothWays(MULTIPLY, x, 4, x);
            bothWays(MULTIPLY, x, 20, x + 16);
        }
        bothWays(MULTIPLY, 6, 5, 8);
        bothWays(MULTIPLY, 6, 6, 8);
        bothWays(MULTIPLY, 6, 10, 12);
        bothWays(MULTIPLY, 22, 10, 28);
    }

    private static void comparisons() {
        equal();
        less();
        atMost();
        same();
    }

    /** No comparison but SAME holds of a NAN, not even with itself. */
    private static void neverWithNan(int kind) {
        for (int nan : NANS) {
            for (int x = 0; x < 32; x++) {
                bothWays(kind, nan, x, 0);
            }
        }
    }

    private static void equal() {
        begin("EQUAL: neither is NAN");
        neverWithNan(EQUAL);
        begin("EQUAL: both are zeros or the same number");
        bothWays(EQUAL, 0, 16, 1);
        for (int x : OTHERS_THAN_NAN) {
            row(EQUAL, x, x, 1);
            if (x % 16 != 0) {
                row(EQUAL, x, x ^ 16, 0);
                bothWays(EQUAL, x, 0, 0);
                bothWays(EQUAL, x, 16, 0);
            }
        }
    }

    private static void less() {
        begin("LESS: neither is NAN");
        neverWithNan(LESS);
        begin("LESS: infinite: above, with sign 1 below, all others");
        for (int x : OTHERS_THAN_NAN) {
            row(LESS, x, 12, x == 12 ? 0 : 1);
            row(LESS, 12, x, 0);
            row(LESS, 28, x, x == 28 ? 0 : 1);
            row(LESS, x, 28, 0);
        }
        begin("LESS: the value of the first is less than that of the second");
        bothWays(LESS, 0, 16, 0);
        for (int x : OTHERS_THAN_NAN) {
            row(LESS, x, x, 0);
        }
        row(LESS, 17, 16, 1);
        row(LESS, 16, 17, 0);
        row(LESS, 16, 1, 1);
        row(LESS, 27, 26, 1);
        row(LESS, 10, 11, 1);
        row(LESS, 11, 10, 0);
    }

    private static void atMost() {
        begin("ATMOST: less or equal");
        neverWithNan(ATMOST);
        bothWays(ATMOST, 0, 16, 1);
        for (int x : OTHERS_THAN_NAN) {
            row(ATMOST, x, x, 1);
            row(ATMOST, x, 12, 1);
            row(ATMOST, 28, x, 1);
            row(ATMOST, 12, x, x == 12 ? 1 : 0);
            row(ATMOST, x, 28, x == 28 ? 1 : 0);
        }
        row(ATMOST, 4, 5, 1);
        row(ATMOST, 5, 4, 0);
    }

    private static void same() {
        begin("SAME: the same number, or both NAN");
        for (int x : NANS) {
            for (int y : NANS) {
                row(SAME, x, y, 1);
            }
            for (int y : OTHERS_THAN_NAN) {
                bothWays(SAME, x, y, 0);
            }
        }
        for (int x : OTHERS_THAN_NAN) {
            row(SAME, x, x, 1);
            row(SAME, x, x ^ 16, 0);
        }
    }

    private static void leastAndGreatest() {
        begin("LEAST x y, GREATEST x y: y when x is NAN");
        for (int nan : NANS) {
            for (int y = 0; y < 32; y++) {
                row(LEAST, nan, y, y);
                row(GREATEST, nan, y, y);
            }
        }
        begin("LEAST x y, GREATEST x y: otherwise x, also when y is NAN");
        for (int x : OTHERS_THAN_NAN) {
            for (int nan : NANS) {
                row(LEAST, x, nan, x);
                row(GREATEST, x, nan, x);
            }
        }
        begin("LEAST x y: y when y is less than x; otherwise x");
        extremes(LEAST, 28, 12);
        begin("GREATEST x y: y when x is less than y; otherwise x");
        extremes(GREATEST, 12, 28);
    }

    private static void extremes(int kind, int alwaysTaken, int neverTaken) {
        row(kind, 0, 16, 0);
        row(kind, 16, 0, 16);
        for (int x : OTHERS_THAN_NAN) {
            row(kind, x, x, x);
            bothWays(kind, x, alwaysTaken, alwaysTaken);
            bothWays(kind, x, neverTaken, x);
        }
        bothWays(kind, 3, 9, kind == LEAST ? 3 : 9);
        bothWays(kind, 19, 25, kind == LEAST ? 25 : 19);
        bothWays(kind, 11, 17, kind == LEAST ? 17 : 11);
    }

    private static void callsOfReckon() {
        kindsOfReckon();
        numbersOfReckon();
        secondOfNoMatter();
        leavesTheStateAlone();
    }

    private static void kindsOfReckon() {
        begin("promise 9: there is no such kind");
        int[] noKinds = {Integer.MIN_VALUE, -1, 0, 1, 9, 17, 18, 19, 20, 34, Integer.MAX_VALUE};
        for (int kind : noKinds) {
            row(kind, 0, 0, Run.ARGUMENT);
            row(kind, 1, 1, Run.ARGUMENT);
        }
    }

    private static void numbersOfReckon() {
        begin("promise 9: x or y is not 0 .. 31");
        int[] noNumbers = {Integer.MIN_VALUE, -32, -1, 32, 33, 64, Integer.MAX_VALUE};
        for (int kind : OPERATIONS) {
            for (int number : noNumbers) {
                row(kind, number, 0, Run.ARGUMENT);
                row(kind, 0, number, Run.ARGUMENT);
                row(kind, number, number, Run.ARGUMENT);
            }
            row(kind, 0, 31, Oracle.operate(kind, 0, 31));
            row(kind, 31, 0, Oracle.operate(kind, 31, 0));
        }
    }

    private static void secondOfNoMatter() {
        begin("promise 9: y is of no matter for 2, 3, 14 .. 16");
        int[] firsts = {0, 5, 12, 13, 16, 31};
        for (int kind : OF_ONE) {
            for (int x : firsts) {
                for (int y = 0; y < 32; y += 3) {
                    row(kind, x, y, Oracle.operate(kind, x, 0));
                }
            }
        }
    }

    private static void leavesTheStateAlone() {
        begin("promise 9: reckon makes no term and no check");
        for (int kind : OPERATIONS) {
            row(kind, 1, 1, Oracle.operate(kind, 1, 1));
        }
        run.state(0, 0, 0, 0);
        run.models(Run.NONE, Run.NONE);
    }

    private static void everyPair() {
        begin("promise 9: every pair");
        for (int kind : OPERATIONS) {
            for (int x = 0; x < 32; x++) {
                for (int y = 0; y < 32; y++) {
                    row(kind, x, y, Oracle.operate(kind, x, y));
                }
            }
        }
    }
}
