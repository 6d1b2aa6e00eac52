import java.util.ArrayList;
import java.util.Arrays;
import java.util.List;
import java.util.NoSuchElementException;

/** The document's class once more, as plainly as can be: lists, recursion, and all 1024 pairs at each check. */
final class Reference {
    private static final String[] PARTS = {
        "v", "k", "n", "n", "nn", "nn", "nn", "nn", "nn", "tnn",
        "nn", "nn", "nn", "nn", "n", "n", "n", "t", "tt", "tt"
    };

    private final List<int[]> termList = new ArrayList<>();
    private final List<List<Integer>> levels = new ArrayList<>();
    private int[] model;
    private int checkCount;

    Reference() {
        levels.add(new ArrayList<>());
    }

    private boolean there(int term) {
        return 0 <= term && term < termList.size();
    }

    private boolean truth(int term) {
        return there(term) && termList.get(term)[0] >= 10;
    }

    private boolean as(char part, int given) {
        switch (part) {
            case 'v': return given == 0 || given == 1;
            case 'k': return 0 <= given && given <= 31;
            case 'n': return there(given) && !truth(given);
            default: return truth(given);
        }
    }

    int term(int kind, int a, int b, int c) {
        if (kind < 0 || kind >= PARTS.length) {
            throw new IllegalArgumentException();
        }
        int[] given = {a, b, c};
        int[] made = new int[1 + PARTS[kind].length()];
        made[0] = kind;
        for (int i = 0; i < PARTS[kind].length(); i++) {
            if (!as(PARTS[kind].charAt(i), given[i])) {
                throw new IllegalArgumentException();
            }
            made[i + 1] = given[i];
        }
        for (int i = 0; i < termList.size(); i++) {
            if (Arrays.equals(termList.get(i), made)) {
                return i;
            }
        }
        if (termList.size() == 12) {
            throw new IllegalStateException();
        }
        termList.add(made);
        return termList.size() - 1;
    }

    int claim(int term) {
        if (!truth(term)) {
            throw new IllegalArgumentException();
        }
        if (claims() == 20) {
            throw new IllegalStateException();
        }
        levels.get(level()).add(term);
        return claims();
    }

    int open() {
        if (level() == 5) {
            throw new IllegalStateException();
        }
        levels.add(new ArrayList<>());
        return level();
    }

    int close() {
        if (level() == 0) {
            throw new IllegalStateException();
        }
        return levels.remove(level()).size();
    }

    private int at(int term, int x, int y) {
        int[] t = termList.get(term);
        switch (t[0]) {
            case 0: return t[1] == 0 ? x : y;
            case 1: return t[1];
            case 9: return at(t[1], x, y) == 1 ? at(t[2], x, y) : at(t[3], x, y);
            case 17: return at(t[1], x, y) == 1 ? 0 : 1;
            case 18: return at(t[1], x, y) == 1 && at(t[2], x, y) == 1 ? 1 : 0;
            case 19: return at(t[1], x, y) == 1 || at(t[2], x, y) == 1 ? 1 : 0;
            default: return Oracle.operate(t[0], at(t[1], x, y), t.length > 2 ? at(t[2], x, y) : 0);
        }
    }

    private boolean allTrue(int x, int y) {
        for (List<Integer> claims : levels) {
            for (int term : claims) {
                if (at(term, x, y) != 1) {
                    return false;
                }
            }
        }
        return true;
    }

    boolean check() {
        checkCount++;
        model = null;
        for (int x = 0; x < 32 && model == null; x++) {
            for (int y = 0; y < 32 && model == null; y++) {
                if (allTrue(x, y)) {
                    model = new int[] {x, y};
                }
            }
        }
        return model != null;
    }

    int model(int variable) {
        if (variable != 0 && variable != 1) {
            throw new IllegalArgumentException();
        }
        if (model == null) {
            throw new NoSuchElementException();
        }
        return model[variable];
    }

    int value(int term) {
        if (!there(term)) {
            throw new IllegalArgumentException();
        }
        if (model == null) {
            throw new NoSuchElementException();
        }
        return at(term, model[0], model[1]);
    }

    int reckon(int kind, int x, int y) {
        if (kind < 2 || kind > 16 || kind == 9 || x < 0 || x > 31 || y < 0 || y > 31) {
            throw new IllegalArgumentException();
        }
        return Oracle.operate(kind, x, y);
    }

    int terms() {
        return termList.size();
    }

    int claims() {
        int count = 0;
        for (List<Integer> claims : levels) {
            count += claims.size();
        }
        return count;
    }

    int level() {
        return levels.size() - 1;
    }

    int checks() {
        return checkCount;
    }
}
