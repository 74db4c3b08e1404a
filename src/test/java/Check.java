/** Compares answers with those that are due, prints the ones that differ, and counts them. */
final class Check {
    interface Call {
        long answer();
    }

    private String sentence = "";
    private int compared = 0;
    private int wrong = 0;

    /** The document's sentence that the answers from here on are due by. */
    void sentence(String where, String words) {
        sentence = where + " \"" + words + "\": ";
    }

    void due(String what, long got, long want) {
        same(what, String.valueOf(got), String.valueOf(want));
    }

    void due(String what, boolean got, boolean want) {
        same(what, String.valueOf(got), String.valueOf(want));
    }

    void dueIllegalArgument(String what, Call call) {
        same(what, outcome(call), "throws.IllegalArgumentException");
    }

    void dueIllegalState(String what, Call call) {
        same(what, outcome(call), "throws.IllegalStateException");
    }

    void same(String what, String got, String want) {
        compared++;
        if (!got.equals(want)) {
            wrong++;
            System.out.println(sentence + what + " answered " + got + ", due is " + want);
        }
    }

    /** What a call answers, or the very class that it throws: a subclass is another answer. */
    static String outcome(Call call) {
        try {
            return String.valueOf(call.answer());
        } catch (RuntimeException thrown) {
            return "throws." + thrown.getClass().getSimpleName();
        }
    }

    void end() {
        System.out.println(compared + " answers compared, " + wrong + " not as due");
        if (wrong != 0 || compared == 0) {
            System.exit(1);
        }
    }
}
