/**
 * Each sentence of the document that names a boundary (too small, too large, empty, full, refused) has a test
 * of its own here, whose run bears its words. Those on numbers and operations are in ReckonTest, those on what
 * a call that throws leaves behind in RefusedCallsTest.
 */
public final class BoundariesTest {
    private static final long ARGUMENT = Run.ARGUMENT;
    private static final long STATE = Run.STATE;
    private static final long NONE = Run.NONE;
    private static final int LOWEST = Integer.MIN_VALUE;
    private static final int HIGHEST = Integer.MAX_VALUE;
    private static final Checks checks = new Checks();

    public static void main(String[] args) {
        wholeObject();
        partsOfTerms();
        newTerms();
        claims();
        levels();
        checking();
        models();
        values();
        counts();
        checks.finish("BoundariesTest");
    }

    private static Run begin(String words) {
        return new Run(checks, words);
    }

    /** Term 0 is a number, terms 1 and 2 are truths that are never alike. */
    private static Run withTruths(String words) {
        return Run.withTruths(checks, words);
    }

    private static void wholeObject() {
        newObject();
        newObjectIsEmpty();
        the512thCall();
        the512thCallAfterAll();
    }

    private static void newObject() {
        Run run = begin("promise 1: no terms, no claims, level 0, nothing checked");
        run.state(0, 0, 0, 0);
        run.models(NONE, NONE);
    }

    private static void newObjectIsEmpty() {
        Run run = begin("promise 1: no terms, no claims, level 0");
        run.value(0, ARGUMENT);
        run.claim(0, ARGUMENT);
        run.close(STATE);
        run.check(true);
    }

    private static void the512thCall() {
        Run run = begin("an object is used for at most 512 calls");
        for (int i = 0; i < 511; i++) {
            run.check(true);
        }
        run.checks(511);
    }

    private static void the512thCallAfterAll() {
        Run run = withTruths("an object is used for at most 512 calls, of several kinds");
        for (int i = 0; i < 101; i++) {
            run.open(1);
            run.claim(1, 1);
            run.check(true);
            run.model(0, 13);
            run.close(1);
        }
        run.claim(2, 1);
        run.term(1, 7, 0, 0, 3);
        run.check(true);
        run.value(0, 0);
    }

    private static void partsOfTerms() {
        kindsThatAreNone();
        whichVariable();
        whichConstant();
        for (int kind = 2; kind <= 19; kind++) {
            partsNotThere(kind);
            partsOfTheOtherSort(kind);
            partsOfAnEmptyTable(kind);
        }
        for (int kind = 0; kind <= 19; kind++) {
            sortOfATerm(kind);
            partsNotNamed(kind);
        }
    }

    private static void kindsThatAreNone() {
        Run run = withTruths("promise 2: there is no such kind");
        int[] kinds = {LOWEST, -20, -1, 20, 21, 32, HIGHEST};
        for (int kind : kinds) {
            run.term(kind, 0, 0, 0, ARGUMENT);
            run.term(kind, 1, 0, 0, ARGUMENT);
            run.term(kind, 1, 1, 1, ARGUMENT);
        }
        run.terms(3);
    }

    private static void whichVariable() {
        Run run = begin("0 VARIABLE a (0 or 1)");
        int[] none = {LOWEST, -1, 2, 3, HIGHEST};
        for (int variable : none) {
            run.term(0, variable, 0, 0, ARGUMENT);
        }
        run.term(0, 1, 0, 0, 0);
        run.term(0, 0, 0, 0, 1);
        run.term(0, 2, 0, 0, ARGUMENT);
        run.terms(2);
    }

    private static void whichConstant() {
        Run run = begin("1 CONSTANT a (0 .. 31)");
        int[] none = {LOWEST, -1, 32, 33, HIGHEST};
        for (int number : none) {
            run.term(1, number, 0, 0, ARGUMENT);
        }
        run.term(1, 31, 0, 0, 0);
        run.term(1, 0, 0, 0, 1);
        run.check(true);
        run.value(0, 31);
        run.value(1, 0);
    }

    private static int countOfParts(int kind) {
        if (kind == 9) {
            return 3;
        }
        return kind >= 4 && kind <= 13 || kind >= 18 ? 2 : 1;
    }

    /** Whether a part of a kind 2 .. 19 is a truth. */
    private static boolean wantsTruth(int kind, int part) {
        return kind >= 17 || kind == 9 && part == 0;
    }

    /** Parts that are right for a kind: term 0 is to be a number; variable 1 and constant 1 for kinds 0 and 1. */
    private static int[] rightParts(int kind, int truth) {
        int[] parts = new int[3];
        for (int part = 0; part < 3; part++) {
            parts[part] = wantsTruth(kind, part) ? truth : 0;
        }
        if (kind < 2) {
            parts[0] = 1;
        }
        return parts;
    }

    private static void withPart(Run run, int kind, int part, int given) {
        int[] parts = rightParts(kind, 1);
        parts[part] = given;
        run.term(kind, parts[0], parts[1], parts[2], ARGUMENT);
    }

    private static void partsNotThere(int kind) {
        Run run = withTruths("kind " + kind + ": a, b, c are terms that are there");
        int[] none = {LOWEST, -1, 3, 4, 11, 12, 32, HIGHEST};
        for (int part = 0; part < countOfParts(kind); part++) {
            for (int given : none) {
                withPart(run, kind, part, given);
            }
        }
        run.terms(3);
    }

    private static void partsOfTheOtherSort(int kind) {
        Run run = withTruths("kind " + kind + ": of numbers, or of truths");
        for (int part = 0; part < countOfParts(kind); part++) {
            withPart(run, kind, part, wantsTruth(kind, part) ? 0 : 2);
        }
        run.terms(3);
    }

    private static void partsOfAnEmptyTable(int kind) {
        Run run = begin("kind " + kind + ": terms that are there, and none is");
        run.term(kind, 0, 0, 0, ARGUMENT);
        run.terms(0);
    }

    private static void sortOfATerm(int kind) {
        boolean truth = kind >= 10;
        Run run = begin("kind " + kind + (truth ? ": these are truths" : ": these are numbers"));
        int[] parts = rightParts(kind, 2);
        run.term(0, 0, 0, 0, 0);
        run.term(1, 0, 0, 0, 1);
        run.term(11, 0, 1, 0, 2);
        run.term(kind, parts[0], parts[1], parts[2], 3);
        run.claim(3, truth ? 1 : ARGUMENT);
        run.term(19, 3, 3, 0, truth ? 4 : ARGUMENT);
        run.term(8, 3, 3, 0, truth ? ARGUMENT : 4);
    }

    private static void partsNotNamed(int kind) {
        int named = countOfParts(kind);
        Run run = withTruths("kind " + kind + ": what a kind does not name is of no matter");
        int[] parts = rightParts(kind, 1);
        int number = kind == 14 ? 1 : kind == 17 ? 2 : 3;
        int[] anything = {LOWEST, -1, 0, 1, 2, 12, 99, HIGHEST};
        for (int given : anything) {
            int b = named < 2 ? given : parts[1];
            int c = named < 3 ? given : parts[2];
            run.term(kind, parts[0], b, c, number);
            run.term(kind, parts[0], b, named < 3 ? 5 : parts[2], number);
        }
        run.terms(Math.max(3, number + 1));
        run.check(true);
        run.value(number, valueWithZeros(kind));
    }

    /** What the terms of partsNotNamed are when both variables are 0: the truth 1 does not hold then. */
    private static int valueWithZeros(int kind) {
        switch (kind) {
            case 1:
            case 10:
            case 11:
            case 13:
            case 16:
            case 17:
                return 1;
            case 2:
                return 16;
            default:
                return 0;
        }
    }

    private static void newTerms() {
        termsAreNumbered();
        anEarlierTerm();
        partsInAnotherOrder();
        theThirteenth();
        anEarlierTermWhenFull();
    }

    private static void termsAreNumbered() {
        Run run = begin("TERMS are numbered 0, 1, .., at most 12");
        for (int i = 0; i < 12; i++) {
            run.terms(i);
            run.term(1, 31 - i, 0, 0, i);
        }
        run.terms(12);
        run.term(1, 0, 0, 0, STATE);
        run.terms(12);
    }

    private static void anEarlierTerm() {
        Run run = begin("promise 2: that of an earlier one of the same kind with the same a, b, c");
        run.term(1, 1, 0, 0, 0);
        run.term(0, 1, 0, 0, 1);
        run.term(1, 1, 0, 0, 0);
        run.term(0, 1, 0, 0, 1);
        run.term(11, 0, 1, 0, 2);
        run.term(10, 0, 1, 0, 3);
        run.term(9, 2, 0, 1, 4);
        run.term(9, 2, 0, 1, 4);
        run.term(9, 2, 0, 0, 5);
        run.term(9, 2, 1, 1, 6);
        run.term(9, 3, 0, 1, 7);
        run.term(10, 0, 1, 0, 3);
        run.terms(8);
    }

    private static void partsInAnotherOrder() {
        Run run = begin("promise 2: with the same a, b, c, not with a and b the other way round");
        run.term(0, 0, 0, 0, 0);
        run.term(0, 1, 0, 0, 1);
        run.term(4, 0, 1, 0, 2);
        run.term(4, 1, 0, 0, 3);
        run.term(11, 0, 1, 0, 4);
        run.term(11, 1, 0, 0, 5);
        run.term(18, 4, 5, 0, 6);
        run.term(18, 5, 4, 0, 7);
        run.terms(8);
    }

    /** The terms of withTruths, and constants up to twelve. */
    private static Run withTwelve(String words) {
        Run run = withTruths(words);
        for (int i = 3; i < 12; i++) {
            run.term(1, i, 0, 0, i);
        }
        return run;
    }

    private static void theThirteenth() {
        Run run = withTwelve("promise 2: it would be the thirteenth");
        run.term(0, 1, 0, 0, STATE);
        run.term(1, 0, 0, 0, STATE);
        for (int kind = 2; kind <= 19; kind++) {
            run.term(kind, wantsTruth(kind, 0) ? 2 : 11, wantsTruth(kind, 1) ? 2 : 11, 11, STATE);
        }
        run.terms(12);
    }

    private static void anEarlierTermWhenFull() {
        Run run = withTwelve("promise 2: an earlier one is no thirteenth");
        run.term(0, 0, 9, 9, 0);
        run.term(14, 0, 9, 9, 1);
        run.term(17, 1, 9, 9, 2);
        run.term(1, 11, 9, 9, 11);
        run.terms(12);
    }

    private static void claims() {
        claimsOfNoTruth();
        claimsOfNoTerm();
        claimedTwice();
        theTwentyFirstClaim();
        twentyOnSeveralLevels();
        roomAfterAClose();
    }

    private static void claimsOfNoTruth() {
        Run run = begin("promise 3: the term is no truth");
        run.term(0, 0, 0, 0, 0);
        run.term(1, 1, 0, 0, 1);
        run.term(6, 0, 1, 0, 2);
        run.term(16, 1, 0, 0, 3);
        run.term(9, 3, 0, 1, 4);
        for (int term = 0; term < 5; term++) {
            run.claim(term, term == 3 ? 1 : ARGUMENT);
        }
        run.claims(1);
    }

    private static void claimsOfNoTerm() {
        Run run = withTruths("promise 3: the term is not there");
        int[] none = {LOWEST, -32, -31, -1, 3, 11, 12, 20, 33, HIGHEST};
        for (int term : none) {
            run.claim(term, ARGUMENT);
        }
        run.claims(0);
        run.claim(2, 1);
    }

    private static void claimedTwice() {
        Run run = withTruths("promise 3: one more claim, also of a term that is claimed");
        run.claim(1, 1);
        run.claim(1, 2);
        run.open(1);
        run.claim(1, 3);
        run.close(1);
        run.claims(2);
        run.check(true);
        run.model(0, 13);
    }

    private static void theTwentyFirstClaim() {
        Run run = withTruths("promise 3: there are 20");
        for (int i = 1; i <= 20; i++) {
            run.claim(1, i);
        }
        run.claim(1, STATE);
        run.claim(2, STATE);
        run.claims(20);
        run.check(true);
        run.model(0, 13);
    }

    private static void twentyOnSeveralLevels() {
        Run run = withTruths("promise 3: there are 20, on levels 0 .. 5");
        for (int i = 1; i <= 20; i++) {
            run.claim(2, i);
            if (i % 4 == 0) {
                run.open(i / 4);
            }
        }
        run.claim(2, STATE);
        run.state(3, 20, 5, 0);
    }

    private static void roomAfterAClose() {
        Run run = withTruths("promise 3: there are no more 20 after a close");
        for (int i = 1; i <= 19; i++) {
            run.claim(1, i);
        }
        run.open(1);
        run.claim(1, 20);
        run.claim(1, STATE);
        run.close(1);
        run.claim(1, 20);
        run.claim(1, STATE);
        run.open(1);
        run.claim(1, STATE);
        run.close(0);
        run.claims(20);
    }

    private static void levels() {
        theSixthLevel();
        theLowestLevel();
        howManyThereWere();
        aLevelAnew();
    }

    private static void theSixthLevel() {
        Run run = begin("promise 4: there are levels 0 .. 5");
        for (int level = 1; level <= 5; level++) {
            run.open(level);
            run.level(level);
        }
        run.open(STATE);
        run.open(STATE);
        run.level(5);
        run.close(0);
        run.open(5);
        run.open(STATE);
        run.level(5);
    }

    private static void theLowestLevel() {
        Run run = withTruths("promise 5: it is level 0, which is always there");
        run.close(STATE);
        run.claim(1, 1);
        run.close(STATE);
        run.state(3, 1, 0, 0);
        run.open(1);
        run.close(0);
        run.close(STATE);
        run.state(3, 1, 0, 0);
        run.check(true);
        run.model(0, 13);
    }

    private static void howManyThereWere() {
        Run run = withTruths("promise 5: nor are its claims: how many those were");
        run.open(1);
        for (int i = 1; i <= 19; i++) {
            run.claim(1, i);
        }
        run.open(2);
        run.open(3);
        run.claim(2, 20);
        run.check(false);
        run.close(1);
        run.check(true);
        run.model(0, 13);
        run.close(0);
        run.close(19);
        run.state(3, 0, 0, 2);
        run.check(true);
        run.model(0, 0);
    }

    private static void aLevelAnew() {
        Run run = withTruths("promise 4: a new level has no claims");
        run.claim(1, 1);
        run.open(1);
        run.claim(2, 2);
        run.close(1);
        run.open(1);
        run.claims(1);
        run.check(true);
        run.close(0);
        run.level(0);
    }

    private static void checking() {
        checkOfNothing();
        checkOfOneNumberEach();
        checkOfNoNumbers();
        checkOfAllLevels();
        checkOfConstants();
    }

    private static void checkOfNothing() {
        Run run = begin("promise 6: all claims, and there are none");
        run.check(true);
        run.models(0, 0);
        run.term(0, 1, 0, 0, 0);
        run.open(1);
        run.check(true);
        run.models(0, 0);
    }

    /** No claim tells one NAN from another, so that the least, 13, stands for all. */
    private static void checkOfOneNumberEach() {
        for (int x = 0; x < 32; x++) {
            for (int y = 0; y < 32; y++) {
                Run.withModel(checks, "promise 6: some numbers, and just " + x + " and " + y, x, y);
            }
        }
    }

    private static void checkOfNoNumbers() {
        Run run = begin("promise 6: whether some numbers make all claims true, and none do");
        run.term(0, 0, 0, 0, 0);
        run.term(0, 1, 0, 0, 1);
        run.term(12, 0, 1, 0, 2);
        run.term(12, 1, 0, 0, 3);
        run.claim(2, 1);
        run.check(true);
        run.open(1);
        run.claim(3, 2);
        run.check(false);
        run.close(1);
        run.term(12, 0, 0, 0, 4);
        run.claim(4, 2);
        run.check(false);
    }

    private static void checkOfAllLevels() {
        for (int wrong = 0; wrong <= 5; wrong++) {
            Run run = withTruths("promise 6: all claims, one of level " + wrong + " among them");
            for (int level = 0; level <= 5; level++) {
                run.claim(level == wrong ? 2 : 1, level + 1);
                if (level < 5) {
                    run.open(level + 1);
                }
            }
            run.check(false);
            for (int level = 5; level > 0; level--) {
                run.close(1);
                run.check(level == 1 || level <= wrong);
            }
            run.model(0, wrong == 0 ? 0 : 13);
        }
    }

    private static void checkOfConstants() {
        Run run = begin("promise 6: claims without a variable");
        run.term(1, 16, 0, 0, 0);
        run.term(16, 0, 0, 0, 1);
        run.term(14, 0, 0, 0, 2);
        run.claim(1, 1);
        run.check(true);
        run.models(0, 0);
        run.claim(2, 2);
        run.check(false);
    }

    private static void models() {
        leastOfVariableZeroFirst();
        leastOfVariableOneThen();
        leastByNumber();
        noSuchVariable();
        thereWasNoCheck();
        theLatestAnsweredFalse();
        trueAfterFalse();
        modelAfterChanges();
    }

    /** Variable 1 would have the lesser number, 0, if it went first. */
    private static void leastOfVariableZeroFirst() {
        Run run = begin("promise 7: variable 0 has the least");
        run.term(0, 0, 0, 0, 0);
        run.term(0, 1, 0, 0, 1);
        run.term(11, 0, 1, 0, 2);
        run.term(17, 2, 0, 0, 3);
        run.claim(3, 1);
        run.check(true);
        run.models(0, 1);
        run.term(12, 1, 0, 0, 4);
        run.claim(4, 2);
        run.check(true);
        run.models(0, 17);
    }

    private static void leastOfVariableOneThen() {
        Run run = begin("promise 7: and of these variable 1");
        run.term(0, 0, 0, 0, 0);
        run.term(0, 1, 0, 0, 1);
        run.term(1, 6, 0, 0, 2);
        run.term(5, 1, 0, 0, 3);
        run.term(12, 2, 3, 0, 4);
        run.term(12, 2, 0, 0, 5);
        run.claim(5, 1);
        run.check(true);
        run.models(7, 0);
        run.claim(4, 2);
        run.check(true);
        run.models(7, 11);
    }

    private static void leastByNumber() {
        Run run = begin("promise 7: of all numbers the least, not the least value");
        run.term(0, 0, 0, 0, 0);
        run.term(1, 4, 0, 0, 1);
        run.term(3, 0, 0, 0, 2);
        run.term(11, 1, 2, 0, 3);
        run.claim(3, 1);
        run.check(true);
        run.models(4, 0);
        run.term(1, 16, 0, 0, 4);
        run.term(12, 0, 4, 0, 5);
        run.claim(5, 2);
        run.check(true);
        run.models(20, 0);
    }

    private static void noSuchVariable() {
        Run run = withTruths("promise 7: there is no such variable");
        int[] none = {LOWEST, -2, -1, 2, 3, 32, HIGHEST};
        run.check(true);
        for (int variable : none) {
            run.model(variable, ARGUMENT);
        }
        run.models(0, 0);
    }

    private static void thereWasNoCheck() {
        Run run = withTruths("promises 7 and 8: there was none");
        run.models(NONE, NONE);
        run.value(0, NONE);
        run.claim(1, 1);
        run.models(NONE, NONE);
        run.value(2, NONE);
    }

    private static void theLatestAnsweredFalse() {
        Run run = withTruths("promises 7 and 8: the latest check answered false");
        run.claim(1, 1);
        run.check(true);
        run.models(13, 0);
        run.open(1);
        run.claim(2, 2);
        run.models(13, 0);
        run.check(false);
        run.models(NONE, NONE);
        run.value(0, NONE);
        run.close(1);
        run.models(NONE, NONE);
        run.value(2, NONE);
    }

    private static void trueAfterFalse() {
        Run run = withTruths("promises 7 and 8: of the latest check that answered true");
        run.open(1);
        run.claim(1, 1);
        run.claim(2, 2);
        run.check(false);
        run.close(2);
        run.claim(1, 1);
        run.check(true);
        run.models(13, 0);
        run.value(0, 13);
        run.check(true);
        run.models(13, 0);
    }

    private static void modelAfterChanges() {
        Run run = withTruths("promise 7: of the latest check, whatever came later but a check");
        run.open(1);
        run.claim(1, 1);
        run.check(true);
        run.close(1);
        run.models(13, 0);
        run.claim(2, 1);
        run.term(0, 1, 0, 0, 3);
        run.open(1);
        run.models(13, 0);
        run.value(1, 1);
        run.value(2, 0);
    }

    private static void values() {
        valueOfALaterTerm();
        valueOfTruths();
        valueOfNoTerm();
        valueOfTheTwelfth();
    }

    private static void valueOfALaterTerm() {
        Run run = withTruths("promise 8: also one that came later");
        run.claim(1, 1);
        run.check(true);
        run.value(3, ARGUMENT);
        run.term(2, 0, 0, 0, 3);
        run.value(3, 29);
        run.term(0, 1, 0, 0, 4);
        run.value(4, 0);
        run.term(1, 31, 0, 0, 5);
        run.value(5, 31);
        run.term(10, 5, 3, 0, 6);
        run.value(6, 1);
    }

    private static void valueOfTruths() {
        Run run = withTruths("promise 8: 1 or 0 for a truth");
        run.check(true);
        run.value(1, 0);
        run.value(2, 1);
        run.term(18, 1, 2, 0, 3);
        run.term(19, 1, 2, 0, 4);
        run.term(18, 2, 2, 0, 5);
        run.term(19, 1, 1, 0, 6);
        run.value(3, 0);
        run.value(4, 1);
        run.value(5, 1);
        run.value(6, 0);
    }

    private static void valueOfNoTerm() {
        Run run = withTruths("promise 8: it is not there");
        int[] none = {LOWEST, -1, 3, 11, 12, 32, HIGHEST};
        run.check(true);
        for (int term : none) {
            run.value(term, ARGUMENT);
        }
        run.value(2, 1);
    }

    private static void valueOfTheTwelfth() {
        Run run = withTwelve("promise 8: of twelve terms the first and the last");
        run.check(true);
        run.value(0, 0);
        run.value(11, 11);
        run.value(12, ARGUMENT);
    }

    private static void counts() {
        countOfTerms();
        countOfClaims();
        highestLevel();
        countOfChecks();
    }

    private static void countOfTerms() {
        Run run = begin("promise 10: how many terms there are, from none to twelve");
        run.terms(0);
        run.term(2, 0, 0, 0, ARGUMENT);
        run.terms(0);
        run.term(0, 0, 0, 0, 0);
        run.terms(1);
        run.term(0, 0, 0, 0, 0);
        run.terms(1);
        for (int i = 1; i < 12; i++) {
            run.term(1, i, 0, 0, i);
        }
        run.terms(12);
        run.term(1, 0, 0, 0, STATE);
        run.terms(12);
        run.open(1);
        run.close(0);
        run.terms(12);
    }

    private static void countOfClaims() {
        Run run = withTruths("promise 11: how many claims there are, from none to twenty");
        run.claims(0);
        run.claim(0, ARGUMENT);
        run.claims(0);
        run.open(1);
        for (int i = 1; i <= 20; i++) {
            run.claim(1, i);
            run.claims(i);
        }
        run.claim(1, STATE);
        run.claims(20);
        run.close(20);
        run.claims(0);
    }

    private static void highestLevel() {
        Run run = begin("promise 12: the highest level, from 0 to 5");
        run.level(0);
        run.close(STATE);
        run.level(0);
        for (int level = 1; level <= 5; level++) {
            run.open(level);
            run.level(level);
        }
        run.open(STATE);
        run.level(5);
        for (int level = 4; level >= 0; level--) {
            run.close(0);
            run.level(level);
        }
    }

    private static void countOfChecks() {
        Run run = withTruths("promise 13: how many checks there were, true or false");
        run.checks(0);
        run.check(true);
        run.checks(1);
        run.claim(1, 1);
        run.open(1);
        run.claim(2, 2);
        run.check(false);
        run.checks(2);
        run.check(false);
        run.checks(3);
        run.close(1);
        run.checks(3);
        run.model(2, ARGUMENT);
        run.value(0, NONE);
        run.checks(3);
    }
}
