import java.util.ArrayList;
import java.util.Collections;
import java.util.List;
import java.util.Random;

/**
 * The document's words, done as slowly and plainly as can be, to compare answers with. Clauses
 * tell in an order that is shuffled anew each time, and whether a followed clause follows is found
 * by going through all values of the variables.
 */
final class PlainModel {
    private static final int VALUES = 1 << 16;

    private final Random order;
    private final List<List<Integer>> clauses = new ArrayList<>();
    private final List<Boolean> there = new ArrayList<>();
    private final List<Integer> draft = new ArrayList<>();
    private final List<Integer> hints = new ArrayList<>();
    private final boolean[] madeFalse = new boolean[VALUES];
    private int followed = 0;
    private int notFollowing = 0;

    PlainModel(long seed) {
        order = new Random(seed);
    }

    int literal(int l) {
        if (l == 0 || l > 16 || l < -16 || draft.contains(l) || draft.contains(-l)) {
            throw new IllegalArgumentException();
        }
        draft.add(l);
        return draft.size();
    }

    int hint(int clause) {
        if (clause < 0 || clause > 599) {
            throw new IllegalArgumentException();
        }
        if (hints.size() == 40) {
            throw new IllegalStateException();
        }
        hints.add(clause);
        return hints.size();
    }

    int clear() {
        int were = draft.size() + hints.size();
        draft.clear();
        hints.clear();
        return were;
    }

    int give() {
        for (int values = 0; values < VALUES; values++) {
            madeFalse[values] |= !isTrue(draft, values);
        }
        return keep();
    }

    int step() {
        if (told() != 17) {
            return -1;
        }
        return keepFollowed();
    }

    int along() {
        List<Integer> trueOnes = setOut();
        for (int place = 0; place < hints.size(); place++) {
            int clause = hints.get(place);
            boolean last = place == hints.size() - 1;
            if (!isThere(clause)) {
                return -1 - place;
            }
            if (last && open(clause, trueOnes).isEmpty() && !hasTrue(clause, trueOnes)) {
                hints.clear();
                return keepFollowed();
            }
            if (open(clause, trueOnes).size() != 1 || hasTrue(clause, trueOnes)) {
                return -1 - place;
            }
            trueOnes.add(open(clause, trueOnes).get(0));
        }
        return -1 - hints.size();
    }

    int drop(int clause) {
        if (!isThere(clause)) {
            throw new IllegalArgumentException();
        }
        there.set(clause, false);
        return clauses.get(clause).size();
    }

    int at(int clause, int i) {
        if (!isThere(clause) || i < 0) {
            throw new IllegalArgumentException();
        }
        return i < clauses.get(clause).size() ? clauses.get(clause).get(i) : 0;
    }

    int told() {
        List<Integer> trueOnes = setOut();
        boolean oneTold = true;
        while (oneTold) {
            oneTold = false;
            for (int clause : shuffledClauses()) {
                if (hasTrue(clause, trueOnes)) {
                    continue;
                }
                List<Integer> open = open(clause, trueOnes);
                if (open.isEmpty()) {
                    return 17;
                }
                if (open.size() == 1) {
                    trueOnes.add(open.get(0));
                    oneTold = true;
                }
            }
        }
        return trueOnes.size() - draft.size();
    }

    boolean isOver() {
        for (int clause = 0; clause < clauses.size(); clause++) {
            if (there.get(clause) && clauses.get(clause).isEmpty()) {
                return true;
            }
        }
        return false;
    }

    int wrong() {
        return notFollowing;
    }

    int count(int what) {
        switch (what) {
            case 0: return clauses.size();
            case 1: return Collections.frequency(there, true);
            case 2: return followed;
            case 3: return draft.size();
            case 4: return hints.size();
            default: throw new IllegalArgumentException();
        }
    }

    /** A clause that would do as the next hint, all before it doing; 0 if there is none. */
    int goodHint() {
        List<Integer> trueOnes = setOut();
        for (int clause : hints) {
            if (isThere(clause) && !hasTrue(clause, trueOnes)) {
                trueOnes.addAll(open(clause, trueOnes));
            }
        }
        for (int clause : shuffledClauses()) {
            if (!hasTrue(clause, trueOnes) && open(clause, trueOnes).size() <= 1) {
                return clause;
            }
        }
        return 0;
    }

    private int keepFollowed() {
        followed++;
        for (int values = 0; values < VALUES; values++) {
            if (!madeFalse[values] && !isTrue(draft, values)) {
                notFollowing++;
                break;
            }
        }
        return keep();
    }

    private int keep() {
        clauses.add(new ArrayList<>(draft));
        there.add(true);
        draft.clear();
        return clauses.size() - 1;
    }

    private static boolean isTrue(List<Integer> literals, int values) {
        for (int l : literals) {
            boolean variable = (values >> (Math.abs(l) - 1) & 1) == 1;
            if (variable == l > 0) {
                return true;
            }
        }
        return false;
    }

    private boolean isThere(int clause) {
        return clause >= 0 && clause < clauses.size() && there.get(clause);
    }

    private List<Integer> setOut() {
        List<Integer> trueOnes = new ArrayList<>();
        for (int l : draft) {
            trueOnes.add(-l);
        }
        return trueOnes;
    }

    private boolean hasTrue(int clause, List<Integer> trueOnes) {
        for (int l : clauses.get(clause)) {
            if (trueOnes.contains(l)) {
                return true;
            }
        }
        return false;
    }

    private List<Integer> open(int clause, List<Integer> trueOnes) {
        List<Integer> open = new ArrayList<>();
        for (int l : clauses.get(clause)) {
            if (!trueOnes.contains(l) && !trueOnes.contains(-l)) {
                open.add(l);
            }
        }
        return open;
    }

    private List<Integer> shuffledClauses() {
        List<Integer> numbers = new ArrayList<>();
        for (int clause = 0; clause < clauses.size(); clause++) {
            if (there.get(clause)) {
                numbers.add(clause);
            }
        }
        Collections.shuffle(numbers, order);
        return numbers;
    }
}
