import java.util.function.Supplier;

/** What the tests have in common: calls made again and again, and what is seen from outside. */
abstract class BenchCalls {
    static final Check CHECK = new Check();

    /** Ints that are far from all limits of the document, or that wrap where a sum or shift does. */
    private static final int[] FAR_INTS = {
        Integer.MIN_VALUE, Integer.MIN_VALUE + 1, Integer.MIN_VALUE + 16, -(1 << 30), -65537, -65536,
        65536, 65537, 1 << 28, (1 << 28) + 1, 1 << 30, Integer.MAX_VALUE - 15, Integer.MAX_VALUE,
    };

    interface OnBench {
        long answer(ProofBench x);
    }

    static void literals(ProofBench x, int... literals) {
        for (int l : literals) {
            x.literal(l);
        }
    }

    static void hints(ProofBench x, int... clauses) {
        for (int clause : clauses) {
            x.hint(clause);
        }
    }

    static int give(ProofBench x, int... literals) {
        literals(x, literals);
        return x.give();
    }

    /** The bench with this draft instead of the one it has, and without hints. */
    static ProofBench draft(ProofBench x, int... literals) {
        x.clear();
        literals(x, literals);
        return x;
    }

    static ProofBench given(int[]... clauses) {
        ProofBench x = new ProofBench();
        for (int[] literals : clauses) {
            give(x, literals);
        }
        return x;
    }

    static int[] of(int... numbers) {
        return numbers;
    }

    /** first, first + 1, .. as far as last; none if last is less. */
    static int[] row(int first, int last) {
        int[] row = new int[Math.max(0, last - first + 1)];
        for (int i = 0; i < row.length; i++) {
            row[i] = first + i;
        }
        return row;
    }

    static int[] withFarInts(int... near) {
        int[] all = new int[near.length + FAR_INTS.length];
        System.arraycopy(near, 0, all, 0, near.length);
        System.arraycopy(FAR_INTS, 0, all, near.length, FAR_INTS.length);
        return all;
    }

    static ProofBench fourClauses() {
        return given(of(1, 2), of(1, -2), of(-1, 3), of(-1, -3));
    }

    /** Clauses of which one is dropped, a draft, and hints along which it is followed. */
    static ProofBench busy() {
        ProofBench x = fourClauses();
        x.drop(2);
        literals(x, 5, 1);
        hints(x, 0, 1);
        return x;
    }

    static ProofBench busyWithAllHints() {
        ProofBench x = busy();
        while (x.count(4) < 40) {
            x.hint(0);
        }
        return x;
    }

    static void dueCounts(String when, ProofBench x, int... want) {
        for (int what = 0; what < want.length; what++) {
            CHECK.due(when + ": count(" + what + ")", x.count(what), want[what]);
        }
    }

    static void dueClause(String when, ProofBench x, int clause, int... want) {
        for (int i = 0; i < want.length; i++) {
            CHECK.due(when + ": at(" + clause + ", " + i + ")", x.at(clause, i), want[i]);
        }
        CHECK.due(when + ": at(" + clause + ", " + want.length + ")", x.at(clause, want.length), 0);
    }

    /** All that a bench tells without being changed. */
    static String view(ProofBench x) {
        StringBuilder text = new StringBuilder();
        for (int what = 0; what <= 4; what++) {
            text.append(x.count(what)).append(' ');
        }
        text.append("told ").append(x.told()).append(" over ").append(x.isOver());
        text.append(" wrong ").append(x.wrong());
        int clauses = x.count(0);
        for (int clause = 0; clause < clauses; clause++) {
            text.append(" [").append(clauseView(x, clause)).append(']');
        }
        return text.toString();
    }

    private static String clauseView(ProofBench x, int clause) {
        StringBuilder text = new StringBuilder();
        for (int i = 0; i < 16; i++) {
            int place = i;
            String literal = Check.outcome(() -> x.at(clause, place));
            text.append(literal);
            if (literal.equals("0") || literal.startsWith("throws.")) {
                break;
            }
            text.append(' ');
        }
        return text.toString();
    }

    /** What the draft and the hints hold, too, by calls that change the bench. */
    static String laidBare(ProofBench x) {
        StringBuilder text = new StringBuilder();
        text.append("along ").append(Check.outcome(x::along)).append(": ").append(view(x));
        text.append("; give ").append(Check.outcome(x::give)).append(": ").append(view(x));
        text.append("; clear ").append(Check.outcome(x::clear)).append(": ").append(view(x));
        return text.toString();
    }

    static void refusedArgument(String what, Supplier<ProofBench> made, OnBench call) {
        refused("IllegalArgumentException", what, made, call);
    }

    static void refusedState(String what, Supplier<ProofBench> made, OnBench call) {
        refused("IllegalStateException", what, made, call);
    }

    /** The call is refused, and the bench is then as its twin, on which the call was not made. */
    private static void refused(String exception, String what, Supplier<ProofBench> made, OnBench call) {
        ProofBench x = made.get();
        ProofBench twin = made.get();
        CHECK.same(what, Check.outcome(() -> call.answer(x)), "throws." + exception);
        CHECK.same(what + " refused, seen from outside", view(x), view(twin));
        CHECK.same(what + " refused, laid bare", laidBare(x), laidBare(twin));
    }
}
