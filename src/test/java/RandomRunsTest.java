import java.util.Random;

/** Runs of 512 drawn calls, the same in every session, each answer compared with the model's. */
public final class RandomRunsTest {
    private static final Check CHECK = new Check();
    private static final int RUNS = 300;
    private static final int CALLS = 512;

    private final String run;
    private final Random draw;
    private final int variables;
    private final int longest;
    private final ProofBench bench = new ProofBench();
    private final PlainModel model;
    private int calls = 0;

    private static int steps = 0;
    private static int alongs = 0;
    private static int badHints = 0;

    private RandomRunsTest(int seed) {
        run = "run " + seed + ": ";
        draw = new Random(seed);
        model = new PlainModel(seed);
        // Few variables and short clauses come to followed drafts, many to long chains of telling.
        variables = 3 + draw.nextInt(14);
        longest = 2 + draw.nextInt(3);
    }

    public static void main(String[] args) {
        for (int seed = 1; seed <= RUNS; seed++) {
            new RandomRunsTest(seed).play();
        }
        System.out.println(steps + " followed by step, " + alongs + " along hints, "
            + badHints + " stopped behind the first hint");
        CHECK.due("enough of each kind was seen",
            steps > 1000 && alongs > 1000 && badHints > 1000, true);
        CHECK.end();
    }

    private void play() {
        while (calls < CALLS) {
            int kind = draw.nextInt(100);
            if (kind < 30) {
                drawDraft();
                compare("give()", bench::give, model::give);
            } else if (kind < 50) {
                drawDraft();
                compare("told()", bench::told, model::told);
                if (compare("step()", bench::step, model::step) >= 0) {
                    steps++;
                }
            } else if (kind < 75) {
                hintedDraft();
            } else if (kind < 82) {
                int clause = drawClause();
                compare("drop(" + clause + ")", () -> bench.drop(clause), () -> model.drop(clause));
            } else {
                looseCall();
            }
        }
    }

    private void drawDraft() {
        if (draw.nextInt(4) != 0) {
            compare("clear()", bench::clear, model::clear);
        }
        int size = draw.nextInt(20) == 0 ? 0 : 1 + draw.nextInt(longest);
        for (int i = 0; i < size; i++) {
            addLiteral(drawLiteral());
        }
    }

    /** Most hints are as they must be, so that along() goes far before it stops. */
    private void hintedDraft() {
        compare("clear()", bench::clear, model::clear);
        int size = 1 + draw.nextInt(longest);
        for (int i = 0; i < size; i++) {
            addLiteral(drawLiteral());
        }
        int most = 1 + draw.nextInt(8);
        for (int i = 0; i < most; i++) {
            int clause = draw.nextInt(8) == 0 ? drawClause() : model.goodHint();
            compare("hint(" + clause + ")", () -> bench.hint(clause), () -> model.hint(clause));
            long answer = compare("along()", bench::along, model::along);
            if (answer >= 0) {
                alongs++;
                return;
            }
            if (answer < -1) {
                badHints++;
            }
        }
    }

    private void looseCall() {
        int clause = drawClause();
        int i = draw.nextInt(19) - 1;
        int what = draw.nextInt(7) - 1;
        switch (draw.nextInt(7)) {
            case 0: compare("at(" + clause + ", " + i + ")", () -> bench.at(clause, i), () -> model.at(clause, i)); break;
            case 1: compare("count(" + what + ")", () -> bench.count(what), () -> model.count(what)); break;
            case 2: compare("isOver()", () -> bench.isOver() ? 1 : 0, () -> model.isOver() ? 1 : 0); break;
            case 3: compare("wrong()", bench::wrong, model::wrong); break;
            case 4: compare("hint(" + clause + ")", () -> bench.hint(clause), () -> model.hint(clause)); break;
            case 5: addLiteral(draw.nextInt(40) - 20); break;
            default: compare("told()", bench::told, model::told); break;
        }
    }

    private int drawLiteral() {
        int variable = 1 + draw.nextInt(variables);
        return draw.nextBoolean() ? variable : -variable;
    }

    private int drawClause() {
        int clauses = model.count(0);
        return draw.nextInt(12) == 0 ? draw.nextInt(620) - 10 : draw.nextInt(clauses + 1);
    }

    private void addLiteral(int l) {
        compare("literal(" + l + ")", () -> bench.literal(l), () -> model.literal(l));
    }

    private long compare(String call, Check.Call asked, Check.Call due) {
        if (calls >= CALLS) {
            return -1;
        }
        calls++;
        String got = Check.outcome(asked);
        CHECK.same(run + "call " + calls + ", " + call, got, Check.outcome(due));
        return got.startsWith("throws.") ? -1 : Long.parseLong(got);
    }
}
