/**
 * Checks a proof step by step: clauses are given, and others are said to follow; each is followed
 * by itself, or along hints, by nothing but clauses of which all literals but one are false.
 *
 * <p>A set of literals is held as the bits of an int, v in the lower half and -v in the upper, so
 * that "all literals but one are false" is a question to a whole clause at once. What the bits do
 * not tell, the order in which the literals were added, is a long beside it: four bits a place.
 */
public final class ProofBench {
    private static final int MOST_VARIABLES = 16;
    private static final int MOST_CLAUSES = 600;
    private static final int MOST_HINTS = 40;
    private static final int NO_LITERALS = 0;
    private static final int ORDER_BITS = 4;
    private static final int ORDER_MASK = 15;
    private static final int NOT_FOLLOWED = -1;
    /** What told() answers when a clause is wrong: more than there are variables to tell of. */
    private static final int CAME_TO_WRONG = 17;
    /** In the stead of a bad hint's place, when all hints are as they must be. */
    private static final int NO_BAD_HINT = -1;

    private final int[] clauses;
    private final long[] orders;
    private final boolean[] there;
    private final int[] hints;
    private int clauseCount;
    private int thereCount;
    private int followedCount;
    private int hintCount;
    private int draft;
    private long draftOrder;

    public ProofBench() {
        clauses = new int[MOST_CLAUSES];
        orders = new long[MOST_CLAUSES];
        there = new boolean[MOST_CLAUSES];
        hints = new int[MOST_HINTS];
    }

    public int literal(int l) throws IllegalArgumentException {
        if (l == 0 || l < -MOST_VARIABLES || l > MOST_VARIABLES) {
            throw new IllegalArgumentException("not a literal");
        }
        int added = bitOf(l);
        if (((draft | negated(draft)) & added) != NO_LITERALS) {
            throw new IllegalArgumentException("the draft has this variable");
        }
        int variable = l > 0 ? l : -l;
        draftOrder |= (long) (variable - 1) << (ORDER_BITS * sizeOf(draft));
        draft |= added;
        return sizeOf(draft);
    }

    public int hint(int clause) throws IllegalArgumentException, IllegalStateException {
        if (clause < 0 || clause >= MOST_CLAUSES) {
            throw new IllegalArgumentException("not a clause's number");
        }
        if (hintCount >= MOST_HINTS) {
            throw new IllegalStateException("no room for another hint");
        }
        hints[hintCount] = clause;
        hintCount++;
        return hintCount;
    }

    public int clear() {
        int cleared = sizeOf(draft) + hintCount;
        emptyDraft();
        hintCount = 0;
        return cleared;
    }

    public int give() throws IllegalStateException {
        refuseIfFull();
        return keepDraft();
    }

    public int step() throws IllegalStateException {
        refuseIfFull();
        if (told() != CAME_TO_WRONG) {
            return NOT_FOLLOWED;
        }
        followedCount++;
        return keepDraft();
    }

    public int along() throws IllegalStateException {
        refuseIfFull();
        int badPlace = firstBadHint();
        if (badPlace != NO_BAD_HINT) {
            return -1 - badPlace;
        }
        followedCount++;
        hintCount = 0;
        return keepDraft();
    }

    public int drop(int clause) throws IllegalArgumentException {
        refuseIfNotThere(clause);
        there[clause] = false;
        thereCount--;
        return sizeOf(clauses[clause]);
    }

    public int at(int clause, int i) throws IllegalArgumentException {
        refuseIfNotThere(clause);
        if (i < 0) {
            throw new IllegalArgumentException("no place in a clause");
        }
        int literals = clauses[clause];
        if (i >= sizeOf(literals)) {
            return 0;
        }
        int variable = (int) ((orders[clause] >>> (ORDER_BITS * i)) & ORDER_MASK) + 1;
        return (literals & bitOf(variable)) != NO_LITERALS ? variable : -variable;
    }

    public int told() {
        int falseOnes = draft;
        // Each round but the last tells of a variable, so one more than there are is enough.
        for (int round = 0; round <= MOST_VARIABLES; round++) {
            int before = falseOnes;
            for (int clause = 0; clause < clauseCount; clause++) {
                if (there[clause]) {
                    if (isWrong(clauses[clause], falseOnes)) {
                        return CAME_TO_WRONG;
                    }
                    falseOnes |= negated(toldBy(clauses[clause], falseOnes));
                }
            }
            if (falseOnes == before) {
                break;
            }
        }
        return sizeOf(falseOnes) - sizeOf(draft);
    }

    public boolean isOver() {
        for (int clause = 0; clause < clauseCount; clause++) {
            if (there[clause] && clauses[clause] == NO_LITERALS) {
                return true;
            }
        }
        return false;
    }

    /**
     * None, ever, so there is nothing to count. Take values for which all given clauses are true,
     * and so, by induction, all followed before. Were a followed draft false for them, what the
     * clauses tell, setting out from it, would be true for them, and the wrong clause that comes
     * in the end would be false: but it is given, or was followed before. Dropping takes no given
     * clause from those that the values must make true, and giving only adds to them.
     */
    public int wrong() {
        return 0;
    }

    public int count(int what) throws IllegalArgumentException {
        switch (what) {
            case 0:
                return clauseCount;
            case 1:
                return thereCount;
            case 2:
                return followedCount;
            case 3:
                return sizeOf(draft);
            case 4:
                return hintCount;
            default:
                throw new IllegalArgumentException("nothing that is counted");
        }
    }

    private static int bitOf(int literal) {
        return literal > 0 ? 1 << (literal - 1) : 1 << (MOST_VARIABLES - 1 - literal);
    }

    /** The literals that are true just when those of the set are false: the halves change places. */
    private static int negated(int literals) {
        return (literals << MOST_VARIABLES) | (literals >>> MOST_VARIABLES);
    }

    private static int sizeOf(int literals) {
        return Integer.bitCount(literals);
    }

    private static boolean isWrong(int clause, int falseOnes) {
        return (clause & ~falseOnes) == NO_LITERALS;
    }

    /** The literal that the clause tells, as a set of one, or no literals if it tells none. */
    private static int toldBy(int clause, int falseOnes) {
        int rest = clause & ~falseOnes;
        boolean isTrue = (rest & negated(falseOnes)) != NO_LITERALS;
        return sizeOf(rest) == 1 && !isTrue ? rest : NO_LITERALS;
    }

    /** The place that along() tells of, or NO_BAD_HINT if the draft is followed along the hints. */
    private int firstBadHint() {
        int falseOnes = draft;
        for (int place = 0; place < hintCount; place++) {
            int clause = hints[place];
            if (!isThere(clause)) {
                return place;
            }
            if (place == hintCount - 1 && isWrong(clauses[clause], falseOnes)) {
                return NO_BAD_HINT;
            }
            int literal = toldBy(clauses[clause], falseOnes);
            if (literal == NO_LITERALS) {
                return place;
            }
            falseOnes |= negated(literal);
        }
        return hintCount;
    }

    private boolean isThere(int clause) {
        return clause >= 0 && clause < clauseCount && there[clause];
    }

    private void refuseIfNotThere(int clause) {
        if (!isThere(clause)) {
            throw new IllegalArgumentException("no clause that is there");
        }
    }

    private void refuseIfFull() {
        if (clauseCount >= MOST_CLAUSES) {
            throw new IllegalStateException("no room for another clause");
        }
    }

    /** Makes the draft a clause; only behind refuseIfFull(). */
    private int keepDraft() {
        int number = clauseCount;
        clauses[number] = draft;
        orders[number] = draftOrder;
        there[number] = true;
        clauseCount++;
        thereCount++;
        emptyDraft();
        return number;
    }

    private void emptyDraft() {
        draft = NO_LITERALS;
        draftOrder = 0;
    }
}
