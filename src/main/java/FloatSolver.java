import java.util.NoSuchElementException;

/**
 * A solver for claims about five-bit floating-point numbers over two variables.
 * There are only 32 numbers, so a check tries them all, from the least upwards.
 */
public final class FloatSolver {
    private static final int VARIABLE = 0;
    private static final int CONSTANT = 1;
    private static final int NEGATE = 2;
    private static final int ABSOLUTE = 3;
    private static final int ADD = 4;
    private static final int SUBTRACT = 5;
    private static final int MULTIPLY = 6;
    private static final int LEAST = 7;
    private static final int GREATEST = 8;
    private static final int CHOOSE = 9;
    private static final int SAME = 10;
    private static final int EQUAL = 11;
    private static final int LESS = 12;
    private static final int ATMOST = 13;
    private static final int ISNAN = 14;
    private static final int ISINFINITE = 15;
    private static final int ISZERO = 16;
    private static final int NOT = 17;
    private static final int BOTH = 18;
    private static final int EITHER = 19;

    private static final int VARIABLES = 2;
    private static final int LAST_NUMBER = 31;
    private static final int MOST_TERMS = 12;
    private static final int MOST_CLAIMS = 20;
    private static final int LAST_LEVEL = 5;

    private final TermTable table;
    private final ClaimStack stack;
    private final int[] found;
    private boolean modelStands;
    private int checkCount;

    public FloatSolver() {
        table = new TermTable();
        stack = new ClaimStack();
        found = new int[VARIABLES];
        modelStands = false;
        checkCount = 0;
    }

    public int term(int kind, int a, int b, int c) throws IllegalArgumentException, IllegalStateException {
        if (!table.allows(kind, a, b, c)) {
            throw new IllegalArgumentException("no such kind, or a part that is not as the kind says");
        }
        int second = Shapes.ofSecond(kind) == Shapes.NOTHING ? 0 : b;
        int third = Shapes.ofThird(kind) == Shapes.NOTHING ? 0 : c;
        int earlier = table.find(kind, a, second, third);
        if (earlier >= 0) {
            return earlier;
        }
        if (table.isFull()) {
            throw new IllegalStateException("there are twelve terms");
        }
        return table.append(kind, a, second, third);
    }

    public int claim(int term) throws IllegalArgumentException, IllegalStateException {
        if (!table.isTruth(term)) {
            throw new IllegalArgumentException("no truth has this number");
        }
        if (stack.isFull()) {
            throw new IllegalStateException("there are twenty claims");
        }
        return stack.push(term);
    }

    public int open() throws IllegalStateException {
        if (stack.top() == LAST_LEVEL) {
            throw new IllegalStateException("the levels 0 to 5 are there");
        }
        return stack.raise();
    }

    public int close() throws IllegalStateException {
        if (stack.top() == 0) {
            throw new IllegalStateException("level 0 is always there");
        }
        return stack.drop();
    }

    public boolean check() {
        checkCount++;
        modelStands = search();
        return modelStands;
    }

    public int model(int variable) throws IllegalArgumentException, NoSuchElementException {
        if (variable < 0 || variable >= VARIABLES) {
            throw new IllegalArgumentException("the variables are 0 and 1");
        }
        if (!modelStands) {
            throw new NoSuchElementException("the latest check found no model");
        }
        return found[variable];
    }

    public int value(int term) throws IllegalArgumentException, NoSuchElementException {
        if (!table.has(term)) {
            throw new IllegalArgumentException("no term has this number");
        }
        if (!modelStands) {
            throw new NoSuchElementException("the latest check found no model");
        }
        return table.answer(term, found[0], found[1]);
    }

    public int reckon(int kind, int x, int y) throws IllegalArgumentException {
        if (!Numbers.isOperation(kind) || !Numbers.isNumber(x) || !Numbers.isNumber(y)) {
            throw new IllegalArgumentException("no such operation, or not a number 0 to 31");
        }
        return Numbers.operate(kind, x, y);
    }

    public int terms() {
        return table.count();
    }

    public int claims() {
        return stack.count();
    }

    public int level() {
        return stack.top();
    }

    public int checks() {
        return checkCount;
    }

    /**
     * Terms that do not vary with variable 1 are worked out once for each number of variable 0,
     * and a variable that no claim depends on stays 0: a check of many terms would be slow without.
     */
    private boolean search() {
        int claimed = stack.claimedTerms();
        int asked = table.partsOf(claimed);
        int moving = asked & table.varyingWith(1);
        int fixed = asked & ~moving;
        int last = (asked & table.varyingWith(0)) == 0 ? 0 : LAST_NUMBER;
        for (int x = 0; x <= last; x++) {
            boolean fixedHold = table.allHold(fixed, claimed, x, 0);
            for (int y = 0; fixedHold && y <= LAST_NUMBER; y++) {
                if (table.allHold(moving, claimed, x, y)) {
                    found[0] = x;
                    found[1] = y;
                    return true;
                }
            }
        }
        return false;
    }

    /** What each kind of term is made of: what its a, b and c must be. */
    private static final class Shapes {
        static final int NOTHING = 0;
        static final int WHICH_VARIABLE = 1;
        static final int WHICH_NUMBER = 2;
        static final int NUMBER_TERM = 3;
        static final int TRUTH_TERM = 4;

        static boolean isKind(int kind) {
            return kind >= VARIABLE && kind <= EITHER;
        }

        static boolean givesTruth(int kind) {
            return kind >= SAME && kind <= EITHER;
        }

        static int ofFirst(int kind) {
            switch (kind) {
                case VARIABLE:
                    return WHICH_VARIABLE;
                case CONSTANT:
                    return WHICH_NUMBER;
                case CHOOSE:
                case NOT:
                case BOTH:
                case EITHER:
                    return TRUTH_TERM;
                default:
                    return NUMBER_TERM;
            }
        }

        static int ofSecond(int kind) {
            if (kind >= ADD && kind <= ATMOST) {
                return NUMBER_TERM;
            }
            return kind == BOTH || kind == EITHER ? TRUTH_TERM : NOTHING;
        }

        static int ofThird(int kind) {
            return kind == CHOOSE ? NUMBER_TERM : NOTHING;
        }

        static boolean isTerm(int shape) {
            return shape == NUMBER_TERM || shape == TRUTH_TERM;
        }
    }

    /**
     * The terms in the order in which they came, so that the parts of a term stand before it.
     * A set of terms is an int whose bit t stands for term t.
     */
    private static final class TermTable {
        private final int[] kinds = new int[MOST_TERMS];
        private final int[] firsts = new int[MOST_TERMS];
        private final int[] seconds = new int[MOST_TERMS];
        private final int[] thirds = new int[MOST_TERMS];
        private final int[] parts = new int[MOST_TERMS];
        private final int[] varying = new int[VARIABLES];
        private final int[] answers = new int[MOST_TERMS];
        private int size = 0;

        int count() {
            return size;
        }

        boolean isFull() {
            return size >= MOST_TERMS;
        }

        boolean has(int term) {
            return term >= 0 && term < size;
        }

        boolean isTruth(int term) {
            return has(term) && Shapes.givesTruth(kinds[term]);
        }

        boolean isNumberTerm(int term) {
            return has(term) && !Shapes.givesTruth(kinds[term]);
        }

        boolean allows(int kind, int a, int b, int c) {
            return Shapes.isKind(kind)
                && fits(Shapes.ofFirst(kind), a)
                && fits(Shapes.ofSecond(kind), b)
                && fits(Shapes.ofThird(kind), c);
        }

        private boolean fits(int shape, int part) {
            switch (shape) {
                case Shapes.WHICH_VARIABLE:
                    return part >= 0 && part < VARIABLES;
                case Shapes.WHICH_NUMBER:
                    return Numbers.isNumber(part);
                case Shapes.NUMBER_TERM:
                    return isNumberTerm(part);
                case Shapes.TRUTH_TERM:
                    return isTruth(part);
                default:
                    return true;
            }
        }

        /** The parts that the kind does not name are to be 0. The answer is -1 if there is none. */
        int find(int kind, int a, int b, int c) {
            for (int term = 0; term < size; term++) {
                if (kinds[term] == kind && firsts[term] == a && seconds[term] == b && thirds[term] == c) {
                    return term;
                }
            }
            return -1;
        }

        /** Only for what allows() lets through, while the table is not full. */
        int append(int kind, int a, int b, int c) {
            int term = size;
            kinds[term] = kind;
            firsts[term] = a;
            seconds[term] = b;
            thirds[term] = c;
            parts[term] = (1 << term)
                | partsBelow(Shapes.ofFirst(kind), a)
                | partsBelow(Shapes.ofSecond(kind), b)
                | partsBelow(Shapes.ofThird(kind), c);
            noteVariables(term);
            size++;
            return term;
        }

        private int partsBelow(int shape, int part) {
            return Shapes.isTerm(shape) ? parts[part] : 0;
        }

        private void noteVariables(int term) {
            for (int variable = 0; variable < VARIABLES; variable++) {
                boolean isIt = kinds[term] == VARIABLE && firsts[term] == variable;
                if (isIt || (parts[term] & varying[variable]) != 0) {
                    varying[variable] |= 1 << term;
                }
            }
        }

        int varyingWith(int variable) {
            return varying[variable];
        }

        /** The terms of a set with all that they are made of. */
        int partsOf(int set) {
            int all = 0;
            for (int term = 0; term < size; term++) {
                if ((set & (1 << term)) != 0) {
                    all |= parts[term];
                }
            }
            return all;
        }

        /**
         * Works out the asked terms, and whether all claimed ones among them hold; it ends at the first
         * that does not. The parts of the asked terms are asked too, or have been worked out before.
         */
        boolean allHold(int asked, int claimed, int x, int y) {
            for (int term = 0; term < size; term++) {
                int bit = 1 << term;
                if ((asked & bit) != 0) {
                    answers[term] = workOut(term, x, y);
                    if ((claimed & bit) != 0 && answers[term] == 0) {
                        return false;
                    }
                }
            }
            return true;
        }

        int answer(int term, int x, int y) {
            allHold(parts[term], 0, x, y);
            return answers[term];
        }

        /** What a kind does not name stands as 0: its answer is that of term 0 and is not looked at. */
        private int workOut(int term, int x, int y) {
            int kind = kinds[term];
            if (kind == VARIABLE) {
                return firsts[term] == 0 ? x : y;
            }
            if (kind == CONSTANT) {
                return firsts[term];
            }
            int a = answers[firsts[term]];
            int b = answers[seconds[term]];
            int c = answers[thirds[term]];
            switch (kind) {
                case CHOOSE:
                    return a == 1 ? b : c;
                case NOT:
                    return 1 - a;
                case BOTH:
                    return a & b;
                case EITHER:
                    return a | b;
                default:
                    return Numbers.operate(kind, a, b);
            }
        }
    }

    /** The claims in the order in which they came, and with how many of them each level began. */
    private static final class ClaimStack {
        private final int[] claimed = new int[MOST_CLAIMS];
        private final int[] starts = new int[LAST_LEVEL + 1];
        private int size = 0;
        private int highest = 0;

        int count() {
            return size;
        }

        int top() {
            return highest;
        }

        boolean isFull() {
            return size >= MOST_CLAIMS;
        }

        /** Only while the stack is not full. */
        int push(int term) {
            claimed[size] = term;
            size++;
            return size;
        }

        /** Only below the last level. */
        int raise() {
            highest++;
            starts[highest] = size;
            return highest;
        }

        /** Only above level 0. */
        int drop() {
            int gone = size - starts[highest];
            size = starts[highest];
            highest--;
            return gone;
        }

        int claimedTerms() {
            int set = 0;
            for (int i = 0; i < size; i++) {
                set |= 1 << claimed[i];
            }
            return set;
        }
    }

    /** The numbers 0 to 31 and their operations; truths are 1 and 0. */
    private static final class Numbers {
        private static final int SIGN = 16;
        private static final int UNSIGNED = 15;
        private static final int INFINITE = 12;
        private static final int NAN = 13;

        static boolean isNumber(int x) {
            return x >= 0 && x <= LAST_NUMBER;
        }

        static boolean isOperation(int kind) {
            return kind >= NEGATE && kind <= ISZERO && kind != CHOOSE;
        }

        /** For an operation of one number y is of no matter. */
        static int operate(int kind, int x, int y) {
            switch (kind) {
                case NEGATE:
                    return negate(x);
                case ABSOLUTE:
                    return x & UNSIGNED;
                case ADD:
                    return add(x, y);
                case SUBTRACT:
                    return add(x, negate(y));
                case MULTIPLY:
                    return multiply(x, y);
                case LEAST:
                    return isNan(x) || isLess(y, x) ? y : x;
                case GREATEST:
                    return isNan(x) || isLess(x, y) ? y : x;
                case SAME:
                    return x == y || isNan(x) && isNan(y) ? 1 : 0;
                case EQUAL:
                    return isEqual(x, y) ? 1 : 0;
                case LESS:
                    return isLess(x, y) ? 1 : 0;
                case ATMOST:
                    return isLess(x, y) || isEqual(x, y) ? 1 : 0;
                case ISNAN:
                    return isNan(x) ? 1 : 0;
                case ISINFINITE:
                    return isInfinite(x) ? 1 : 0;
                case ISZERO:
                    return isZero(x) ? 1 : 0;
                default:
                    return 0;
            }
        }

        private static boolean isNan(int x) {
            return (x & UNSIGNED) > INFINITE;
        }

        private static boolean isInfinite(int x) {
            return (x & UNSIGNED) == INFINITE;
        }

        private static boolean isZero(int x) {
            return (x & UNSIGNED) == 0;
        }

        private static boolean isEqual(int x, int y) {
            return !isNan(x) && !isNan(y) && (x == y || isZero(x) && isZero(y));
        }

        private static boolean isLess(int x, int y) {
            return !isNan(x) && !isNan(y) && signedQuarters(x) < signedQuarters(y);
        }

        private static int negate(int x) {
            return x ^ SIGN;
        }

        private static int add(int x, int y) {
            if (isNan(x) || isNan(y)) {
                return NAN;
            }
            if (isInfinite(x)) {
                return isInfinite(y) && x != y ? NAN : x;
            }
            if (isInfinite(y)) {
                return y;
            }
            int sum = signedQuarters(x) + signedQuarters(y);
            if (sum == 0) {
                return x == SIGN && y == SIGN ? SIGN : 0;
            }
            return (sum < 0 ? SIGN : 0) | rounded(4 * Math.abs(sum));
        }

        private static int multiply(int x, int y) {
            if (isNan(x) || isNan(y) || isInfinite(x) && isZero(y) || isZero(x) && isInfinite(y)) {
                return NAN;
            }
            int sign = (x ^ y) & SIGN;
            if (isInfinite(x) || isInfinite(y)) {
                return sign | INFINITE;
            }
            return sign | rounded(Math.abs(signedQuarters(x) * signedQuarters(y)));
        }

        /** The infinite is 16, above all other magnitudes. Not for a NAN. */
        private static int signedQuarters(int x) {
            int unsigned = x & UNSIGNED;
            int magnitude = unsigned < 8 ? unsigned : 2 * unsigned - 8;
            return (x & SIGN) == 0 ? magnitude : -magnitude;
        }

        /**
         * The number with sign 0 that is nearest to a magnitude in sixteenths, which hold a product of
         * quarters exactly. Below 8 quarters the magnitudes of numbers are 4 sixteenths apart, above 8.
         * Numbers follow one another as their magnitudes do, so an even number has an even fraction.
         */
        private static int rounded(int sixteenths) {
            boolean fine = sixteenths < 32;
            int step = fine ? 4 : 8;
            int number = sixteenths / step + (fine ? 0 : 4);
            int twiceOver = 2 * (sixteenths % step);
            if (twiceOver > step || twiceOver == step && number % 2 == 1) {
                number++;
            }
            return number < INFINITE ? number : INFINITE;
        }
    }
}
