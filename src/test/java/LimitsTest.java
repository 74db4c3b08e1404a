/**
 * The limit of 600 clauses. "Nothing is promised .. about an object after its 512th call", and no
 * run comes to 600 clauses before; so what is due here is the class's own choice, by the words in
 * which the document names the limit, and by rule 7: no call may throw by itself in any state. All
 * other tests stay within 512 calls an object.
 */
public final class LimitsTest extends BenchCalls {
    public static void main(String[] args) {
        clausesInALife();
        droppingMakesNoRoom();
        giveIllegalState();
        stepIllegalState();
        alongIllegalState();
        otherCallsOnAFullBench();
        lastClauseByStep();
        lastClauseAlong();
        CHECK.end();
    }

    private static ProofBench filled(int clauses) {
        ProofBench x = new ProofBench();
        for (int i = 0; i < clauses; i++) {
            give(x, i % 2 == 0 ? 1 : -2);
        }
        return x;
    }

    private static ProofBench fullWithFollowedDraft() {
        ProofBench x = filled(600);
        literals(x, 3, 1);
        x.hint(598);
        return x;
    }

    private static ProofBench fullWithOtherDraft() {
        ProofBench x = filled(600);
        literals(x, 9, -8);
        x.hint(599);
        return x;
    }

    private static void clausesInALife() {
        CHECK.sentence("Terms", "at most 600 in a life");
        ProofBench x = new ProofBench();
        for (int i = 0; i < 600; i++) {
            CHECK.due("give()", x.give(), i);
        }
        CHECK.dueIllegalState("give() of clause 600", x::give);
        dueCounts("full", x, 600, 600, 0, 0, 0);
    }

    private static void droppingMakesNoRoom() {
        CHECK.sentence("Terms", "at most 600 in a life; each is THERE until it is dropped");
        ProofBench x = filled(600);
        for (int clause = 0; clause < 600; clause++) {
            CHECK.due("drop(" + clause + ")", x.drop(clause), 1);
        }
        CHECK.dueIllegalState("give(), all being dropped", x::give);
        dueCounts("all dropped", x, 600, 0, 0, 0, 0);
        CHECK.due("told()", x.told(), 0);
    }

    private static void giveIllegalState() {
        CHECK.sentence("Promise 5", "Illegal state.");
        CHECK.due("give() of the last clause", give(filled(599), 7), 599);
        refusedState("give() without literals", () -> filled(600), ProofBench::give);
        refusedState("give() of a draft", LimitsTest::fullWithOtherDraft, ProofBench::give);
    }

    private static void stepIllegalState() {
        CHECK.sentence("Promise 6", "Illegal state (followed or not, as in along()).");
        CHECK.due("the draft would be followed", fullWithFollowedDraft().told(), 17);
        refusedState("step(), followed", LimitsTest::fullWithFollowedDraft, ProofBench::step);
        CHECK.due("the other draft would not", fullWithOtherDraft().told(), 2);
        refusedState("step(), not followed", LimitsTest::fullWithOtherDraft, ProofBench::step);
    }

    private static void alongIllegalState() {
        CHECK.sentence("Promise 7", "Illegal state.");
        refusedState("along(), followed", LimitsTest::fullWithFollowedDraft, ProofBench::along);
        refusedState("along(), not followed", LimitsTest::fullWithOtherDraft, ProofBench::along);
        refusedState("along(), no hints", () -> filled(600), ProofBench::along);
    }

    private static void otherCallsOnAFullBench() {
        CHECK.sentence("Terms", "Illegal state: there are 600 clauses.");
        ProofBench x = fullWithFollowedDraft();
        CHECK.due("told()", x.told(), 17);
        CHECK.due("isOver()", x.isOver(), false);
        CHECK.due("wrong()", x.wrong(), 0);
        CHECK.due("literal(16)", x.literal(16), 3);
        CHECK.due("hint(599)", x.hint(599), 2);
        CHECK.due("clear()", x.clear(), 5);
        CHECK.due("at(599, 0)", x.at(599, 0), -2);
        CHECK.due("drop(599)", x.drop(599), 1);
        dueCounts("full", x, 600, 599, 0, 0, 0);
        for (int clause : withFarInts(-1, 599, 600, 601)) {
            CHECK.dueIllegalArgument("drop(" + clause + ")", () -> x.drop(clause));
            CHECK.dueIllegalArgument("at(" + clause + ", 0)", () -> x.at(clause, 0));
        }
    }

    private static void lastClauseByStep() {
        CHECK.sentence("Promise 6", "If the draft is followed it becomes a clause");
        ProofBench x = filled(599);
        x.literal(9);
        CHECK.due("step() before the last clause", x.step(), -1);
        x.literal(1);
        CHECK.due("step() to the last clause", x.step(), 599);
        CHECK.dueIllegalState("step() behind it", x::step);
    }

    private static void lastClauseAlong() {
        CHECK.sentence("Promise 7", "If the draft is followed along the hints it becomes a clause");
        ProofBench x = filled(599);
        x.literal(-2);
        x.hint(599);
        CHECK.due("along() itself", x.along(), -1);
        draft(x, -2);
        hints(x, 0, 597);
        CHECK.due("along() to the last clause", x.along(), 599);
        CHECK.dueIllegalState("along() behind it", x::along);
    }
}
