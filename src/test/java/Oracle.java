/**
 * The operations once more, by the words of the document and by another way than the program's:
 * values are doubles (sums and products of quarters are exact there), and rounding looks at every magnitude.
 */
final class Oracle {
    private Oracle() {
    }

    static boolean nan(int x) {
        return exponent(x) == 3 && fraction(x) != 0;
    }

    static boolean infinite(int x) {
        return exponent(x) == 3 && fraction(x) == 0;
    }

    static boolean zero(int x) {
        return x == 0 || x == 16;
    }

    private static int sign(int x) {
        return x / 16;
    }

    private static int exponent(int x) {
        return x % 16 / 4;
    }

    private static int fraction(int x) {
        return x % 4;
    }

    private static double magnitude(int x) {
        switch (exponent(x)) {
            case 0: return fraction(x) / 4.0;
            case 1: return (4 + fraction(x)) / 4.0;
            case 2: return (8 + 2 * fraction(x)) / 4.0;
            default: return Double.POSITIVE_INFINITY;
        }
    }

    private static double valued(int x) {
        return sign(x) == 1 ? -magnitude(x) : magnitude(x);
    }

    /** The finite numbers 0 to 11 and, as 12, the 16 quarters that become infinite. */
    private static int round(double magnitude) {
        if (magnitude >= 4.0) {
            return 12;
        }
        int best = -1;
        double bestDistance = Double.POSITIVE_INFINITY;
        for (int candidate = 0; candidate <= 12; candidate++) {
            double at = candidate == 12 ? 4.0 : magnitude(candidate);
            double distance = Math.abs(at - magnitude);
            boolean evenTie = distance == bestDistance && fraction(candidate) % 2 == 0;
            if (distance < bestDistance || evenTie) {
                best = candidate;
                bestDistance = distance;
            }
        }
        return best;
    }

    private static int add(int x, int y) {
        if (nan(x) || nan(y)) {
            return 13;
        }
        if (infinite(x) && infinite(y) && sign(x) != sign(y)) {
            return 13;
        }
        if (infinite(x) || infinite(y)) {
            return infinite(x) ? x : y;
        }
        double sum = valued(x) + valued(y);
        if (sum == 0.0) {
            return x == 16 && y == 16 ? 16 : 0;
        }
        return round(Math.abs(sum)) + (sum < 0 ? 16 : 0);
    }

    private static int multiply(int x, int y) {
        if (nan(x) || nan(y)) {
            return 13;
        }
        if (infinite(x) && zero(y) || zero(x) && infinite(y)) {
            return 13;
        }
        int size = infinite(x) || infinite(y) ? 12 : round(magnitude(x) * magnitude(y));
        return sign(x) == sign(y) ? size : size + 16;
    }

    private static boolean less(int x, int y) {
        return !nan(x) && !nan(y) && valued(x) < valued(y);
    }

    private static boolean equal(int x, int y) {
        return !nan(x) && !nan(y) && (x == y || zero(x) && zero(y));
    }

    static int operate(int kind, int x, int y) {
        switch (kind) {
            case 2: return x < 16 ? x + 16 : x - 16;
            case 3: return x % 16;
            case 4: return add(x, y);
            case 5: return add(x, y < 16 ? y + 16 : y - 16);
            case 6: return multiply(x, y);
            case 7: return nan(x) ? y : less(y, x) ? y : x;
            case 8: return nan(x) ? y : less(x, y) ? y : x;
            case 10: return x == y || nan(x) && nan(y) ? 1 : 0;
            case 11: return equal(x, y) ? 1 : 0;
            case 12: return less(x, y) ? 1 : 0;
            case 13: return less(x, y) || equal(x, y) ? 1 : 0;
            case 14: return nan(x) ? 1 : 0;
            case 15: return infinite(x) ? 1 : 0;
            case 16: return zero(x) ? 1 : 0;
            default: throw new AssertionError("no operation " + kind);
        }
    }
}
