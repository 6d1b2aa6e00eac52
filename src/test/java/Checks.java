import java.util.NoSuchElementException;

/** Counts what is as due and what is not; a test ends with finish(). */
final class Checks {
    /** Stand for thrown exceptions among the answers of calls, which are all far from these. */
    static final long ILLEGAL_ARGUMENT = 1_000_001L;
    static final long ILLEGAL_STATE = 1_000_002L;
    static final long NO_SUCH_ELEMENT = 1_000_003L;

    private static final int MOST_PRINTED = 50;
    private int passed;
    private int failed;

    interface Call {
        long answer();
    }

    static long of(Call call) {
        try {
            return call.answer();
        } catch (RuntimeException e) {
            return standingFor(e);
        }
    }

    /** A class below one of the three is not what the document names, and goes on to the caller. */
    private static long standingFor(RuntimeException e) {
        if (e.getClass() == IllegalArgumentException.class) {
            return ILLEGAL_ARGUMENT;
        }
        if (e.getClass() == IllegalStateException.class) {
            return ILLEGAL_STATE;
        }
        if (e.getClass() == NoSuchElementException.class) {
            return NO_SUCH_ELEMENT;
        }
        throw e;
    }

    void due(String what, long want, Call call) {
        long got;
        try {
            got = of(call);
        } catch (RuntimeException e) {
            fail(what + " threw " + e + ", due is " + named(want));
            return;
        }
        if (got == want) {
            passed++;
        } else {
            fail(what + " answered " + named(got) + ", due is " + named(want));
        }
    }

    void isTrue(String what, boolean holds) {
        if (holds) {
            passed++;
        } else {
            fail(what);
        }
    }

    void finish(String test) {
        System.out.println(test + ": " + passed + " passed, " + failed + " failed");
        if (failed != 0 || passed == 0) {
            System.exit(1);
        }
    }

    private void fail(String message) {
        failed++;
        if (failed <= MOST_PRINTED) {
            System.out.println(message);
        }
    }

    private static String named(long answer) {
        if (answer == ILLEGAL_ARGUMENT) {
            return "throws.IllegalArgumentException";
        }
        if (answer == ILLEGAL_STATE) {
            return "throws.IllegalStateException";
        }
        return answer == NO_SUCH_ELEMENT ? "throws.NoSuchElementException" : Long.toString(answer);
    }
}
