/** Each promise of the document by hand: ordinary inputs, the edges that it names, wrong inputs. */
public final class PromisesTest extends BenchCalls {
    public static void main(String[] args) {
        newObject();
        objectsAreApart();
        literalAdds();
        literalRefuses();
        hintAdds();
        hintRefuses();
        clearEmptiesBoth();
        giveKeepsTheDraft();
        stepFollows();
        stepIsNotFollowed();
        stepSeesOnlyWhatIsThere();
        stepDoesNotGuess();
        alongFollows();
        alongTellsTheBadPlace();
        alongWantsHintsInOrder();
        alongWantsClausesThatAreThere();
        alongUsesNothingButHints();
        dropTakesAway();
        dropRefuses();
        atKeepsTheOrder();
        atRefuses();
        toldCounts();
        toldComesToWrong();
        toldChangesNothing();
        toldGoesBackToEarlierClauses();
        isOverWhileAnEmptyClauseIsThere();
        wrongIsNone();
        countTellsEach();
        countRefuses();
        CHECK.end();
    }

    private static void newObject() {
        ProofBench x = new ProofBench();
        dueCounts("1 new", x, 0, 0, 0, 0, 0);
        CHECK.due("1 new: isOver()", x.isOver(), false);
        CHECK.due("1 new: told()", x.told(), 0);
        CHECK.due("1 new: wrong()", x.wrong(), 0);
        CHECK.due("1 new: step()", x.step(), -1);
        CHECK.due("1 new: along()", x.along(), -1);
        CHECK.due("1 new: clear()", x.clear(), 0);
        CHECK.dueIllegalArgument("1 new: at(0, 0)", () -> x.at(0, 0));
        CHECK.dueIllegalArgument("1 new: drop(0)", () -> x.drop(0));
        CHECK.due("1 new: give()", x.give(), 0);
    }

    private static void objectsAreApart() {
        ProofBench one = new ProofBench();
        ProofBench other = new ProofBench();
        give(one, 1, 2);
        one.literal(3);
        one.hint(0);
        dueCounts("1 apart", other, 0, 0, 0, 0, 0);
        CHECK.due("1 apart: give()", other.give(), 0);
    }

    private static void literalAdds() {
        ProofBench x = new ProofBench();
        for (int v = 1; v <= 16; v++) {
            CHECK.due("2 literal, how many", x.literal(v % 2 == 0 ? v : -v), v);
        }
        dueCounts("2 all variables", x, 0, 0, 0, 16, 0);
        x.clear();
        CHECK.due("2 literal(16)", x.literal(16), 1);
        CHECK.due("2 literal(-1)", x.literal(-1), 2);
        CHECK.due("2 literal(1) of another draft", draft(x).literal(1), 1);
    }

    private static void literalRefuses() {
        ProofBench x = new ProofBench();
        int[] none = {0, 17, -17, 32, -32, Integer.MAX_VALUE, Integer.MIN_VALUE};
        for (int l : none) {
            CHECK.dueIllegalArgument("2 literal(" + l + "), the draft being empty", () -> x.literal(l));
        }
        x.literal(5);
        x.literal(-16);
        int[] bad = {0, 17, -17, 18, 32, -32, 33, 5, -5, 16, -16, 100,
            Integer.MAX_VALUE, Integer.MIN_VALUE, Integer.MIN_VALUE + 5};
        for (int l : bad) {
            CHECK.dueIllegalArgument("2 literal(" + l + ")", () -> x.literal(l));
        }
        dueCounts("2 refused", x, 0, 0, 0, 2, 0);
        CHECK.due("2 give() after refusals", x.give(), 0);
        CHECK.due("2 first literal", x.at(0, 0), 5);
        CHECK.due("2 second literal", x.at(0, 1), -16);
        CHECK.due("2 no third literal", x.at(0, 2), 0);
        CHECK.due("2 literal(5) again, the draft being new", x.literal(5), 1);
    }

    private static void hintAdds() {
        ProofBench x = new ProofBench();
        CHECK.due("3 hint of a clause that is not yet", x.hint(599), 1);
        CHECK.due("3 hint(0)", x.hint(0), 2);
        CHECK.due("3 hint(0) again", x.hint(0), 3);
        x.give();
        x.drop(0);
        CHECK.due("3 hint of a dropped clause", x.hint(0), 4);
        dueCounts("3 hints", x, 1, 0, 0, 0, 4);
    }

    private static void hintRefuses() {
        ProofBench x = new ProofBench();
        int[] bad = {-1, 600, 601, Integer.MAX_VALUE, Integer.MIN_VALUE};
        for (int clause : bad) {
            CHECK.dueIllegalArgument("3 hint(" + clause + ")", () -> x.hint(clause));
        }
        for (int i = 1; i <= 40; i++) {
            CHECK.due("3 hint, how many", x.hint(i), i);
        }
        CHECK.dueIllegalState("3 hint, 40 there", () -> x.hint(0));
        for (int clause : bad) {
            CHECK.dueIllegalArgument("3 hint(" + clause + "), 40 there", () -> x.hint(clause));
        }
        dueCounts("3 refused", x, 0, 0, 0, 0, 40);
        CHECK.due("3 clear()", x.clear(), 40);
        CHECK.due("3 hint after clear", x.hint(0), 1);
    }

    private static void clearEmptiesBoth() {
        ProofBench x = new ProofBench();
        give(x, 1, 2);
        x.literal(-3);
        x.literal(4);
        hints(x, 0, 7, 0);
        CHECK.due("4 clear()", x.clear(), 5);
        dueCounts("4 cleared", x, 1, 1, 0, 0, 0);
        CHECK.due("4 clear() again", x.clear(), 0);
        CHECK.due("4 along() without hints", x.along(), -1);
        give(x, 4, 3);
        CHECK.due("4 order of a draft after clear", x.at(1, 0), 4);
        CHECK.due("4 order of a draft after clear", x.at(1, 1), 3);
        x.literal(2);
        CHECK.due("4 clear() of literals alone", x.clear(), 1);
        x.hint(2);
        CHECK.due("4 clear() of hints alone", x.clear(), 1);
    }

    private static void giveKeepsTheDraft() {
        ProofBench x = new ProofBench();
        hints(x, 3, 4);
        CHECK.due("5 give()", give(x, 1, -2), 0);
        dueCounts("5 given", x, 1, 1, 0, 0, 2);
        CHECK.due("5 give() the same again", give(x, 1, -2), 1);
        CHECK.due("5 give() without literals", x.give(), 2);
        CHECK.due("5 isOver()", x.isOver(), true);
        x.drop(2);
        CHECK.due("5 numbers are not used again", x.give(), 3);
        dueCounts("5 given", x, 4, 3, 0, 0, 2);
    }

    private static void stepFollows() {
        ProofBench x = fourClauses();
        hints(x, 9);
        x.literal(1);
        CHECK.due("6 step() of 1", x.step(), 4);
        dueCounts("6 followed", x, 5, 5, 1, 0, 1);
        CHECK.due("6 the clause", x.at(4, 0), 1);
        CHECK.due("6 behind it", x.at(4, 1), 0);
        CHECK.due("6 step() of nothing, by a followed clause", x.step(), 5);
        CHECK.due("6 isOver()", x.isOver(), true);
        dueCounts("6 followed", x, 6, 6, 2, 0, 1);
        x.literal(-9);
        CHECK.due("6 step() of any draft, an empty clause being there", x.step(), 6);

        ProofBench y = new ProofBench();
        give(y, 1, -2);
        draft(y, -2, 5, 1);
        CHECK.due("6 step() of a draft that holds a clause", y.step(), 1);
        CHECK.due("6 its order", y.at(1, 0), -2);
        CHECK.due("6 its order", y.at(1, 1), 5);
        CHECK.due("6 its order", y.at(1, 2), 1);
    }

    private static void stepIsNotFollowed() {
        ProofBench x = fourClauses();
        hints(x, 0);
        CHECK.due("6 step() of nothing: no clause tells", x.step(), -1);
        x.literal(3);
        x.literal(4);
        x.drop(3);
        x.drop(1);
        CHECK.due("6 step() of 3 4", x.step(), -1);
        dueCounts("6 not followed", x, 4, 2, 0, 2, 1);
        CHECK.due("6 the draft stays", x.give(), 4);
        CHECK.due("6 as it was", x.at(4, 0), 3);
        CHECK.due("6 as it was", x.at(4, 1), 4);
    }

    private static void stepSeesOnlyWhatIsThere() {
        ProofBench x = new ProofBench();
        give(x, 1);
        give(x, -1, 2);
        draft(x, 2);
        CHECK.due("6 told() of 2", x.told(), 17);
        x.drop(0);
        CHECK.due("6 step() without a dropped clause", x.step(), -1);
        CHECK.due("6 told() without it", x.told(), 1);
        x.clear();
        give(x, 1);
        x.literal(2);
        CHECK.due("6 step() with it given again", x.step(), 3);
    }

    private static void stepDoesNotGuess() {
        ProofBench x = new ProofBench();
        give(x, 1, 2);
        give(x, 1, -2);
        give(x, -1, 2);
        give(x, -1, -2);
        CHECK.due("6 step() of what follows, but by no telling", x.step(), -1);
        CHECK.due("6 told() there", x.told(), 0);
        x.literal(-1);
        CHECK.due("6 step() of one case", x.step(), 4);
        CHECK.due("6 step() then", x.step(), 5);
    }

    private static void alongFollows() {
        ProofBench x = fourClauses();
        draft(x, 1);
        hints(x, 0, 1);
        CHECK.due("7 along 0 1", x.along(), 4);
        dueCounts("7 followed", x, 5, 5, 1, 0, 0);
        CHECK.due("7 the clause", x.at(4, 0), 1);
        hints(x, 4, 2, 3);
        CHECK.due("7 along 4 2 3", x.along(), 5);
        CHECK.due("7 isOver()", x.isOver(), true);
        draft(x, 8, -7);
        hints(x, 5);
        CHECK.due("7 along a wrong one alone", x.along(), 6);
        dueCounts("7 followed", x, 7, 7, 3, 0, 0);
    }

    private static void alongTellsTheBadPlace() {
        ProofBench x = fourClauses();
        CHECK.due("7 no hints", x.along(), -1);
        x.literal(1);
        CHECK.due("7 no hints, a draft", x.along(), -1);
        x.hint(0);
        CHECK.due("7 the last one tells", x.along(), -2);
        x.hint(0);
        CHECK.due("7 the last one is true", x.along(), -2);
        x.hint(1);
        CHECK.due("7 one in the middle is true", x.along(), -2);
        dueCounts("7 both stay", x, 4, 4, 0, 1, 3);
        draft(x, 1);
        hints(x, 2, 0, 1);
        CHECK.due("7 true by the draft", x.along(), -1);
        draft(x, 1, 2);
        hints(x, 0, 0);
        CHECK.due("7 wrong, but not the last", x.along(), -1);
        draft(x, 1, 2);
        hints(x, 0);
        CHECK.due("7 wrong, and the last", x.along(), 4);
        draft(x, 5);
        hints(x, 0);
        CHECK.due("7 two are open", x.along(), -1);
        CHECK.due("7 the last of two tells", draftAlong(x, 2, 0, 2), -3);
        CHECK.due("7 one behind two that tell is true", draftAlong(x, 2, 0, 2, 1), -3);
        CHECK.due("7 one behind two that tell is wrong", draftAlong(x, 2, 0, 2, 3), 5);
    }

    private static int draftAlong(ProofBench x, int literal, int... clauses) {
        draft(x, literal);
        hints(x, clauses);
        return x.along();
    }

    private static void alongWantsHintsInOrder() {
        ProofBench x = new ProofBench();
        give(x, 1);
        give(x, -1, 2);
        give(x, -2, 3);
        give(x, -3, 4);
        CHECK.due("7 chain", draftAlong(x, 4, 0, 1, 2, 3), 4);
        CHECK.due("7 chain backwards", draftAlong(x, 4, 3, 2, 1, 0), 5);
        CHECK.due("7 chain from within", draftAlong(x, 5, 1, 0, 2, 3), -1);
        CHECK.due("7 chain with a gap", draftAlong(x, 5, 0, 2, 1, 3), -2);
        CHECK.due("7 chain to its end", draftAlong(x, 5, 0, 1, 2, 3), -5);
        CHECK.due("7 chain, twice the same", draftAlong(x, 4, 0, 1, 1, 2), -3);
    }

    private static void alongWantsClausesThatAreThere() {
        ProofBench x = fourClauses();
        CHECK.due("7 first not yet", draftAlong(x, 1, 4, 1), -1);
        CHECK.due("7 last not yet", draftAlong(x, 1, 0, 599), -2);
        x.drop(1);
        CHECK.due("7 last dropped", draftAlong(x, 1, 0, 1), -2);
        CHECK.due("7 first dropped", draftAlong(x, 1, 1, 0), -1);
        draft(x, 2);
        hints(x, 0, 4);
        CHECK.due("7 hint before its clause", x.along(), -2);
        CHECK.due("7 give() keeps the hints", x.give(), 4);
        x.literal(2);
        CHECK.due("7 hint whose clause has come", x.along(), 5);
    }

    private static void alongUsesNothingButHints() {
        ProofBench x = fourClauses();
        x.give();
        CHECK.due("7 an empty clause that is no hint", draftAlong(x, 1, 0), -2);
        CHECK.due("7 it ends where it is a hint", draftAlong(x, 1, 0, 4), 5);
        CHECK.due("7 not before", draftAlong(x, 1, 4, 0), -1);
    }

    private static void dropTakesAway() {
        ProofBench x = new ProofBench();
        give(x, 1, 2, 3);
        give(x);
        give(x, -4);
        draft(x, 7);
        x.hint(0);
        CHECK.due("8 drop(0)", x.drop(0), 3);
        dueCounts("8 dropped", x, 3, 2, 0, 1, 1);
        CHECK.due("8 drop(1)", x.drop(1), 0);
        CHECK.due("8 drop(2)", x.drop(2), 1);
        dueCounts("8 all dropped", x, 3, 0, 0, 1, 1);
        CHECK.due("8 told()", x.told(), 0);

        ProofBench y = new ProofBench();
        draft(y, 1, 2, 3, 4, 5, 6, 7, 8, 9, 10, 11, 12, 13, 14, 15, 16).give();
        CHECK.due("8 drop of 16 literals", y.drop(0), 16);
    }

    private static void dropRefuses() {
        ProofBench x = new ProofBench();
        give(x, 1);
        give(x, 2);
        x.drop(1);
        int[] bad = {-1, 1, 2, 599, 600, Integer.MAX_VALUE, Integer.MIN_VALUE};
        for (int clause : bad) {
            CHECK.dueIllegalArgument("8 drop(" + clause + ")", () -> x.drop(clause));
        }
        dueCounts("8 refused", x, 2, 1, 0, 0, 0);
    }

    private static void atKeepsTheOrder() {
        ProofBench x = new ProofBench();
        int[] row = {-16, 3, -1, 15, 2, -8, 9, 4, -5, 6, -7, 10, 11, -12, -13, 14};
        give(x, row);
        for (int i = 0; i < row.length; i++) {
            CHECK.due("9 at(0, " + i + ")", x.at(0, i), row[i]);
        }
        int[] behind = {16, 17, 31, 32, 64, 600, Integer.MAX_VALUE};
        for (int i : behind) {
            CHECK.due("9 at(0, " + i + ")", x.at(0, i), 0);
        }
        give(x);
        CHECK.due("9 at of an empty clause", x.at(1, 0), 0);
        give(x, 16, 1);
        CHECK.due("9 at(2, 0)", x.at(2, 0), 16);
        CHECK.due("9 at(2, 1)", x.at(2, 1), 1);
        CHECK.due("9 at(2, 2)", x.at(2, 2), 0);
    }

    private static void atRefuses() {
        ProofBench x = new ProofBench();
        give(x, 1, 2);
        give(x, 3);
        x.drop(1);
        int[] bad = {-1, 1, 2, 599, 600, Integer.MAX_VALUE, Integer.MIN_VALUE};
        for (int clause : bad) {
            CHECK.dueIllegalArgument("9 at(" + clause + ", 0)", () -> x.at(clause, 0));
            CHECK.dueIllegalArgument("9 at(" + clause + ", -1)", () -> x.at(clause, -1));
        }
        CHECK.dueIllegalArgument("9 at(0, -1)", () -> x.at(0, -1));
        CHECK.dueIllegalArgument("9 at(0, least)", () -> x.at(0, Integer.MIN_VALUE));
    }

    private static void toldCounts() {
        ProofBench x = new ProofBench();
        for (int v = 1; v < 16; v++) {
            give(x, -v, v + 1);
        }
        CHECK.due("10 nothing set out from", x.told(), 0);
        CHECK.due("10 from -1: all others", draft(x, -1).told(), 15);
        CHECK.due("10 from 16: all others", draft(x, 16).told(), 15);
        CHECK.due("10 from 8: those before", draft(x, 8).told(), 7);
        CHECK.due("10 from -8: those behind", draft(x, -8).told(), 8);
        CHECK.due("10 from 1: none", draft(x, 1).told(), 0);
        CHECK.due("10 the draft's own are not counted", draft(x, -1, -3).told(), 14);
        CHECK.due("10 the draft's own are not counted", draft(x, 3, -12).told(), 6);
        draft(x);
        give(x, 1);
        CHECK.due("10 all sixteen", x.told(), 16);
    }

    private static void toldComesToWrong() {
        ProofBench x = new ProofBench();
        give(x, 1, 2);
        CHECK.due("10 both false", draft(x, 1, 2).told(), 17);
        CHECK.due("10 one false", draft(x, 1).told(), 1);
        CHECK.due("10 one true", draft(x, -1).told(), 0);
        CHECK.due("10 one true, one false", draft(x, -1, 2).told(), 0);
        draft(x);
        give(x);
        CHECK.due("10 an empty clause is wrong", x.told(), 17);
        x.drop(1);
        CHECK.due("10 but not a dropped one", x.told(), 0);
        give(x, 5);
        give(x, -5);
        CHECK.due("10 two that gainsay", x.told(), 17);
    }

    private static void toldChangesNothing() {
        ProofBench x = fourClauses();
        hints(x, 1);
        x.literal(2);
        CHECK.due("10 told()", x.told(), 17);
        CHECK.due("10 told() again", x.told(), 17);
        dueCounts("10 nothing changed", x, 4, 4, 0, 1, 1);
        CHECK.due("10 the draft is as it was", x.step(), 4);
        CHECK.due("10 the draft is as it was", x.at(4, 0), 2);
    }

    /** Given the wrong way round, so that each pass over the clauses can tell of one more alone. */
    private static void toldGoesBackToEarlierClauses() {
        ProofBench x = new ProofBench();
        give(x, -16, 15);
        for (int v = 15; v >= 1; v--) {
            give(x, -v, v + 1);
        }
        CHECK.due("10 fifteen backwards", draft(x, -1).told(), 15);
        draft(x);
        give(x, 1);
        CHECK.due("10 sixteen backwards", x.told(), 16);

        ProofBench y = new ProofBench();
        give(y, -16, -1);
        for (int v = 15; v >= 1; v--) {
            give(y, -v, v + 1);
        }
        give(y, 1);
        CHECK.due("10 wrong after fifteen backwards", y.told(), 17);
        CHECK.due("6 step() after fifteen backwards", y.step(), 17);
    }

    private static void isOverWhileAnEmptyClauseIsThere() {
        ProofBench x = new ProofBench();
        CHECK.due("11 no clause", x.isOver(), false);
        give(x, 1);
        CHECK.due("11 one with a literal", x.isOver(), false);
        give(x, -1);
        CHECK.due("11 gainsaying is not over", x.isOver(), false);
        x.step();
        CHECK.due("11 followed", x.isOver(), true);
        give(x);
        x.drop(2);
        CHECK.due("11 one of two dropped", x.isOver(), true);
        x.drop(3);
        CHECK.due("11 both dropped", x.isOver(), false);
    }

    private static void wrongIsNone() {
        ProofBench x = fourClauses();
        CHECK.due("12 none followed", x.wrong(), 0);
        x.literal(1);
        x.step();
        for (int clause = 0; clause < 4; clause++) {
            x.drop(clause);
        }
        CHECK.due("12 all that were given are dropped", x.wrong(), 0);
        draft(x, 1, 9);
        CHECK.due("12 step() by what was followed", x.step(), 5);
        CHECK.due("12 it follows from what was dropped", x.wrong(), 0);
        give(x);
        give(x, 9);
        CHECK.due("12 given later", x.wrong(), 0);
    }

    private static void countTellsEach() {
        ProofBench x = fourClauses();
        x.drop(3);
        x.literal(1);
        x.step();
        draft(x, 1, 7);
        x.hint(4);
        x.along();
        dueCounts("13", x, 6, 5, 2, 0, 0);
        x.drop(4);
        dueCounts("13 followed and dropped", x, 6, 4, 2, 0, 0);
        draft(x, 1, -2, 3);
        hints(x, 0, 1, 2, 3);
        dueCounts("13", x, 6, 4, 2, 3, 4);
        x.along();
        x.give();
        dueCounts("13 given", x, 7, 5, 2, 0, 4);
    }

    private static void countRefuses() {
        ProofBench x = fourClauses();
        int[] bad = {-1, 5, 6, Integer.MAX_VALUE, Integer.MIN_VALUE};
        for (int what : bad) {
            CHECK.dueIllegalArgument("13 count(" + what + ")", () -> x.count(what));
        }
        dueCounts("13 refused", x, 4, 4, 0, 0, 0);
    }
}
