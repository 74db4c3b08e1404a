/**
 * The limit of 600 clauses. An object is promised for 512 calls only, so no promised run comes to
 * it; the document names it all the same, and no call may fail there by itself.
 */
public final class LimitsTest {
    private static final Check CHECK = new Check();

    public static void main(String[] args) {
        lastClauses();
        fullBench();
        lastClauseByStep();
        lastClauseAlong();
        CHECK.end();
    }

    private static ProofBench filled(int clauses) {
        ProofBench x = new ProofBench();
        for (int i = 0; i < clauses; i++) {
            x.literal(i % 2 == 0 ? 1 : -2);
            x.give();
        }
        return x;
    }

    private static void lastClauses() {
        ProofBench x = new ProofBench();
        for (int i = 0; i < 600; i++) {
            CHECK.due("give()", x.give(), i);
        }
        CHECK.dueIllegalState("give() of clause 600", x::give);
    }

    private static void fullBench() {
        ProofBench x = filled(600);
        x.literal(1);
        x.literal(3);
        x.hint(598);
        CHECK.due("told()", x.told(), 17);
        CHECK.dueIllegalState("give()", x::give);
        CHECK.dueIllegalState("step() of what is followed", x::step);
        CHECK.dueIllegalState("along() of what is followed", x::along);
        CHECK.due("count(3), the draft stays", x.count(3), 2);
        CHECK.due("count(4), the hints stay", x.count(4), 1);
        x.clear();
        x.literal(9);
        CHECK.dueIllegalState("step() of what is not followed", x::step);
        CHECK.dueIllegalState("along() of what is not followed", x::along);
        CHECK.due("at(599, 0)", x.at(599, 0), -2);
        CHECK.due("drop(599)", x.drop(599), 1);
        CHECK.dueIllegalState("give(), a clause being dropped", x::give);
        CHECK.dueIllegalArgument("drop(600)", () -> x.drop(600));
        CHECK.dueIllegalArgument("at(600, 0)", () -> x.at(600, 0));
        CHECK.due("hint(599)", x.hint(599), 1);
        CHECK.due("count(0)", x.count(0), 600);
        CHECK.due("count(1)", x.count(1), 599);
        CHECK.due("count(2)", x.count(2), 0);
        CHECK.due("wrong()", x.wrong(), 0);
        CHECK.due("isOver()", x.isOver(), false);
    }

    private static void lastClauseByStep() {
        ProofBench x = filled(599);
        x.literal(9);
        CHECK.due("step() before the last clause", x.step(), -1);
        x.literal(1);
        CHECK.due("step() to the last clause", x.step(), 599);
        CHECK.dueIllegalState("step() behind it", x::step);
    }

    private static void lastClauseAlong() {
        ProofBench x = filled(599);
        x.literal(-2);
        x.hint(599);
        CHECK.due("along() itself", x.along(), -1);
        x.clear();
        x.literal(-2);
        x.hint(0);
        x.hint(597);
        CHECK.due("along() to the last clause", x.along(), 599);
        CHECK.dueIllegalState("along() behind it", x::along);
    }
}
