/** The edges that the promises name, a method for each sentence. */
public final class PromiseEdgesTest extends BenchCalls {
    public static void main(String[] args) {
        newObject();
        literalHowMany();
        literalVariableInIt();
        hintThereOrNot();
        hint0To599();
        hint40();
        clearHowMany();
        givePerhapsWithoutLiterals();
        giveHintsStay();
        stepFollowed();
        stepOtherwise();
        alongFollowed();
        alongFirstBadHint();
        alongHowManyThereAre();
        alongBothStay();
        alongManyHints();
        dropThereNoMore();
        dropIllegalArgument();
        atInTheOrderAdded();
        at0BehindTheLast();
        atIllegalArgument();
        toldDraftsOwnNotCounted();
        toldUntilNoOneTells();
        toldUntilOneIsWrong();
        isOverWithoutLiterals();
        wrongByThoseDropped();
        wrongByThen();
        countEach();
        countIllegalArgument();
        CHECK.end();
    }

    private static void newObject() {
        CHECK.sentence("Promise 1", "No clauses, no hints; the draft is empty.");
        dueCounts("new", new ProofBench(), 0, 0, 0, 0, 0);
        CHECK.due("told()", new ProofBench().told(), 0);
        CHECK.due("isOver()", new ProofBench().isOver(), false);
        CHECK.due("wrong()", new ProofBench().wrong(), 0);
        CHECK.due("clear()", new ProofBench().clear(), 0);
        CHECK.due("step()", new ProofBench().step(), -1);
        CHECK.due("along()", new ProofBench().along(), -1);
        CHECK.due("give()", new ProofBench().give(), 0);
        CHECK.due("literal(1)", new ProofBench().literal(1), 1);
        CHECK.due("hint(0)", new ProofBench().hint(0), 1);
        refusedArgument("drop(0)", ProofBench::new, x -> x.drop(0));
        refusedArgument("at(0, 0)", ProofBench::new, x -> x.at(0, 0));
        ProofBench x = new ProofBench();
        x.give();
        dueClause("the empty draft given", x, 0);
        busy();
        dueCounts("new beside a used one", new ProofBench(), 0, 0, 0, 0, 0);
    }

    private static void literalHowMany() {
        CHECK.sentence("Promise 2", "Adds a literal to the draft: how many it has.");
        ProofBench x = new ProofBench();
        for (int i = 1; i <= 16; i++) {
            CHECK.due("literal " + i, x.literal(i % 2 == 0 ? 17 - i : i - 17), i);
        }
        x.clear();
        CHECK.due("the first after clear()", x.literal(-16), 1);
        x.give();
        CHECK.due("the first after give()", x.literal(-16), 1);
        x.step();
        CHECK.due("the first after step()", x.literal(-16), 1);
        x.hint(0);
        x.along();
        CHECK.due("the first after along()", x.literal(-16), 1);
        CHECK.due("the second", x.literal(1), 2);
        CHECK.due("step() that leaves the draft", draft(x, 3).step(), -1);
        CHECK.due("the second behind it", x.literal(4), 2);
    }

    private static void literalVariableInIt() {
        CHECK.sentence("Promise 2", "Illegal argument: also if its variable is in it.");
        for (int v = 1; v <= 16; v++) {
            for (int in : of(v, -v)) {
                refusedArgument("literal(" + in + ") to " + in, () -> draft(busy(), in), x -> x.literal(in));
                refusedArgument("literal(" + -in + ") to " + in, () -> draft(busy(), in), x -> x.literal(-in));
                int other = v == 16 ? 1 : v + 1;
                CHECK.due("literal(" + other + ") to " + in, draft(busy(), in).literal(other), 2);
                CHECK.due("literal(" + -other + ") to " + in, draft(busy(), in).literal(-other), 2);
            }
        }
        ProofBench x = given(of(7, -8));
        CHECK.due("a variable that is in a clause only", x.literal(-7), 1);
        x.clear();
        CHECK.due("a variable that was in the draft", x.literal(7), 1);
    }

    private static void hintThereOrNot() {
        CHECK.sentence("Promise 3", "Adds a clause's number to the hints, whether it is there or not: how many they are.");
        ProofBench x = busy();
        CHECK.due("of a clause that is there", x.hint(3), 3);
        CHECK.due("of one that is dropped", x.hint(2), 4);
        CHECK.due("of one that is not yet", x.hint(4), 5);
        CHECK.due("of one that can be the last", x.hint(599), 6);
        CHECK.due("the same again", x.hint(599), 7);
        CHECK.due("count(4)", x.count(4), 7);
        ProofBench y = new ProofBench();
        CHECK.due("there being no clause", y.hint(0), 1);
        draft(y);
        y.hint(1);
        y.give();
        CHECK.due("not there at along()", y.along(), -1);
        y.give();
        CHECK.due("there at along()", y.along(), 2);
    }

    private static void hint0To599() {
        CHECK.sentence("Promise 3", "Illegal argument: it is not 0 .. 599");
        for (int clause : of(0, 1, 598, 599)) {
            CHECK.due("hint(" + clause + ")", new ProofBench().hint(clause), 1);
            CHECK.due("hint(" + clause + ") behind two", busy().hint(clause), 3);
        }
        for (int clause : withFarInts(-1, -2, -599, -600, 600, 601, 1023, 1024)) {
            refusedArgument("hint(" + clause + ")", ProofBench::new, x -> x.hint(clause));
            refusedArgument("hint(" + clause + ") behind two", BenchCalls::busy, x -> x.hint(clause));
        }
    }

    private static void hint40() {
        CHECK.sentence("Promise 3", "illegal state: there are 40 hints");
        ProofBench x = new ProofBench();
        for (int i = 1; i <= 40; i++) {
            CHECK.due("hint " + i, x.hint(600 - i), i);
        }
        CHECK.dueIllegalState("hint 41", () -> x.hint(0));
        CHECK.dueIllegalState("hint 41 again", () -> x.hint(599));
        CHECK.due("count(4)", x.count(4), 40);
        refusedState("hint 41", BenchCalls::busyWithAllHints, y -> y.hint(0));
        CHECK.due("clear()", x.clear(), 40);
        CHECK.due("hint after clear()", x.hint(0), 1);
    }

    private static void clearHowMany() {
        CHECK.sentence("Promise 4", "Draft and hints are empty: how many literals and hints there were.");
        CHECK.due("none of either", new ProofBench().clear(), 0);
        for (int literals : of(0, 1, 15, 16)) {
            for (int hints : of(0, 1, 39, 40)) {
                ProofBench x = draft(fourClauses(), row(1, literals));
                hints(x, row(0, hints - 1));
                String what = literals + " literals, " + hints + " hints";
                CHECK.due(what + ": clear()", x.clear(), literals + hints);
                dueCounts(what, x, 4, 4, 0, 0, 0);
                CHECK.due(what + ": clear() again", x.clear(), 0);
                CHECK.due(what + ": along() then", x.along(), -1);
                CHECK.due(what + ": give() then", x.give(), 4);
                dueClause(what + ": an empty clause", x, 4);
            }
        }
        ProofBench y = busy();
        y.clear();
        dueClause("clauses stay", y, 0, 1, 2);
        CHECK.dueIllegalArgument("what is dropped stays so", () -> y.drop(2));
    }

    private static void givePerhapsWithoutLiterals() {
        CHECK.sentence("Promise 5", "The draft (perhaps without literals) is given: it becomes a clause, and is empty then");
        for (int size = 0; size <= 16; size++) {
            ProofBench x = draft(fourClauses(), row(1, size));
            CHECK.due(size + " literals: give()", x.give(), 4);
            dueClause(size + " literals", x, 4, row(1, size));
            dueCounts(size + " literals", x, 5, 5, 0, 0, 0);
            CHECK.due(size + " literals: isOver()", x.isOver(), size == 0);
            CHECK.due(size + " literals: give() of the empty draft", x.give(), 5);
            dueClause(size + " literals, then none", x, 5);
        }
        ProofBench y = given(of(1), of(1), of(-1));
        dueCounts("the same twice, and its contrary", y, 3, 3, 0, 0, 0);
        dueClause("the second of them", y, 1, 1);
    }

    private static void giveHintsStay() {
        CHECK.sentence("Promise 5", "(the hints stay): its number");
        for (int hints : of(0, 1, 39, 40)) {
            ProofBench x = new ProofBench();
            hints(x, row(0, hints - 1));
            x.give();
            CHECK.due(hints + " hints: count(4)", x.count(4), hints);
        }
        ProofBench y = busy();
        CHECK.due("give()", y.give(), 4);
        y.literal(1);
        CHECK.due("along the hints that stayed", y.along(), 5);
    }

    private static void stepFollowed() {
        CHECK.sentence("Promise 6", "If the draft is followed it becomes a clause, and is empty then (the hints stay): its number");
        ProofBench x = busy();
        CHECK.due("step()", x.step(), 4);
        dueClause("followed", x, 4, 5, 1);
        dueCounts("followed", x, 5, 4, 1, 0, 2);
        x.literal(1);
        CHECK.due("along the hints that stayed", x.along(), 5);

        ProofBench full = busyWithAllHints();
        full.step();
        CHECK.due("40 hints stay", full.count(4), 40);

        ProofBench empty = given(of());
        for (int size = 0; size <= 16; size++) {
            CHECK.due(size + " literals by an empty clause", draft(empty, row(1, size)).step(), 1 + size);
            dueClause(size + " literals", empty, 1 + size, row(1, size));
        }
        CHECK.due("count(2)", empty.count(2), 17);
    }

    private static void stepOtherwise() {
        CHECK.sentence("Promise 6", "-1 otherwise (and it stays)");
        for (int size = 0; size <= 15; size++) {
            ProofBench x = draft(given(row(1, 16)), row(1, size));
            x.hint(0);
            CHECK.due(size + " of 16 false: step()", x.step(), -1);
            CHECK.due(size + " of 16 false: step() again", x.step(), -1);
            dueCounts(size + " of 16 false", x, 1, 1, 0, size, 1);
            CHECK.due(size + " of 16 false: the draft given", x.give(), 1);
            dueClause(size + " of 16 false", x, 1, row(1, size));
        }
        CHECK.due("16 of 16 false", draft(given(row(1, 16)), row(1, 16)).step(), 1);
        CHECK.due("what follows, but by no telling",
            given(of(1, 2), of(1, -2), of(-1, 2), of(-1, -2)).step(), -1);
    }

    private static void alongFollowed() {
        CHECK.sentence("Promise 7", "If the draft is followed along the hints it becomes a clause, and both are empty then: its number");
        ProofBench x = busy();
        CHECK.due("along()", x.along(), 4);
        dueClause("followed", x, 4, 5, 1);
        dueCounts("followed", x, 5, 4, 1, 0, 0);
        CHECK.due("along() without hints then", x.along(), -1);
        CHECK.due("give() of the empty draft", x.give(), 5);
        dueClause("it has no literals", x, 5);

        ProofBench one = given(row(1, 16));
        literals(one, row(1, 16));
        one.hint(0);
        CHECK.due("16 literals, one hint", one.along(), 1);
        CHECK.due("count(4)", one.count(4), 0);

        ProofBench none = given(of(16), of(-16));
        hints(none, 1, 0);
        CHECK.due("no literals, two hints", none.along(), 2);
        CHECK.due("isOver()", none.isOver(), true);
    }

    private static ProofBench alongBench(int[] literals, int... clauses) {
        ProofBench x = given(of(1, 2), of(1, -2), of(-1, 3), of(-1, -3), of(1, 4, 5), of());
        x.drop(2);
        literals(x, literals);
        hints(x, clauses);
        return x;
    }

    private static void alongFirstBadHint() {
        CHECK.sentence("Promise 7", "otherwise -1 less the place of the first hint that is not as it must be");
        CHECK.due("the only one is dropped", alongBench(of(1), 2).along(), -1);
        CHECK.due("the only one is not yet", alongBench(of(1), 6).along(), -1);
        CHECK.due("the only one never comes", alongBench(of(1), 599).along(), -1);
        CHECK.due("the only one has two open", alongBench(of(1), 4).along(), -1);
        CHECK.due("the only one is true", alongBench(of(1), 3).along(), -1);
        CHECK.due("the first is dropped", alongBench(of(1), 2, 0, 1).along(), -1);
        CHECK.due("the first is wrong", alongBench(of(1), 5, 0, 1).along(), -1);
        CHECK.due("the first and the last are wrong", alongBench(of(1), 5, 5).along(), -1);
        CHECK.due("the second is dropped", alongBench(of(1), 0, 2, 1).along(), -2);
        CHECK.due("the second is not yet", alongBench(of(1), 0, 6, 1).along(), -2);
        CHECK.due("the second has two open", alongBench(of(1), 0, 4, 1).along(), -2);
        CHECK.due("the second is true", alongBench(of(1), 0, 3, 1).along(), -2);
        CHECK.due("the second is wrong", alongBench(of(1), 0, 1, 1).along(), -2);
        CHECK.due("the first of two bad ones", alongBench(of(1), 0, 4, 2).along(), -2);
        CHECK.due("the last is dropped", alongBench(of(1), 0, 2).along(), -2);
        CHECK.due("the last is true", alongBench(of(1), 0, 0).along(), -2);
        CHECK.due("the last is wrong", alongBench(of(1), 0, 1).along(), 6);
        CHECK.due("the last, an empty one, is wrong", alongBench(of(1), 0, 5).along(), 6);
    }

    private static void alongHowManyThereAre() {
        CHECK.sentence("Promise 7", "(of how many there are, if the last one tells a literal, or there is none)");
        CHECK.due("no hints", alongBench(of(1)).along(), -1);
        CHECK.due("no hints, no literals", alongBench(of()).along(), -1);
        CHECK.due("no hints, a draft that step() follows", alongBench(of(1, 2)).along(), -1);
        CHECK.due("one, it tells, and one that is no hint is wrong then", alongBench(of(1), 0).along(), -2);
        CHECK.due("two, the last tells", alongBench(of(1, 4), 0, 4).along(), -3);
        CHECK.due("the last tells the last open one", draftAlong(given(row(1, 16)), row(1, 15)), -2);
    }

    private static int draftAlong(ProofBench x, int[] literals) {
        draft(x, literals);
        x.hint(0);
        return x.along();
    }

    private static void alongBothStay() {
        CHECK.sentence("Promise 7", "and both stay");
        ProofBench x = alongBench(of(4, 1), 0);
        CHECK.due("the last tells", x.along(), -2);
        CHECK.due("again", x.along(), -2);
        dueCounts("both stay", x, 6, 5, 0, 2, 1);
        x.hint(1);
        CHECK.due("with a hint more", x.along(), 6);
        dueClause("followed", x, 6, 4, 1);

        ProofBench y = alongBench(of(4), 0, 1);
        CHECK.due("the first has two open", y.along(), -1);
        dueCounts("both stay", y, 6, 5, 0, 1, 2);
        y.literal(1);
        CHECK.due("with a literal more", y.along(), 6);

        ProofBench none = alongBench(of(4, -1));
        CHECK.due("no hints", none.along(), -1);
        dueCounts("both stay", none, 6, 5, 0, 2, 0);
        CHECK.due("the draft given", none.give(), 6);
        dueClause("the draft given", none, 6, 4, -1);
    }

    /** Sixteen variables can be told of, one a hint; a seventeenth hint can only be wrong. */
    private static void alongManyHints() {
        CHECK.sentence("Promise 3 and 7", "there are 40 hints; -1 less the place of the first hint that is not as it must be");
        ProofBench x = new ProofBench();
        for (int v = 1; v <= 16; v++) {
            give(x, v);
        }
        give(x, row(-16, -1));
        hints(x, row(0, 15));
        CHECK.due("16 that tell", x.along(), -17);
        x.hint(15);
        CHECK.due("and one that is true", x.along(), -17);
        x.clear();
        hints(x, row(0, 16));
        CHECK.due("and one that is wrong", x.along(), 17);
        CHECK.due("isOver()", x.isOver(), true);

        ProofBench full = busyWithAllHints();
        CHECK.due("40 of which the second is wrong", full.along(), -2);
        ProofBench gone = new ProofBench();
        hints(gone, row(560, 599));
        CHECK.due("40 that never come", gone.along(), -1);
        CHECK.due("all 40 stay", gone.count(4), 40);
    }

    private static void dropThereNoMore() {
        CHECK.sentence("Promise 8", "A clause is there no more: how many literals it has.");
        for (int size = 0; size <= 16; size++) {
            ProofBench x = given(of(1), row(1, size), of(2));
            CHECK.due("drop of " + size + " literals", x.drop(1), size);
            dueCounts("drop of " + size + " literals", x, 3, 2, 0, 0, 0);
            CHECK.due("told() without it", x.told(), 2);
            CHECK.due("isOver() without it", x.isOver(), false);
        }
        ProofBench y = busy();
        y.step();
        CHECK.due("drop of a followed one", y.drop(4), 2);
        dueCounts("drop of a followed one", y, 5, 3, 1, 0, 2);
        ProofBench z = busy();
        z.drop(1);
        dueCounts("draft and hints stay", z, 4, 2, 0, 2, 2);
        CHECK.due("along a dropped one", z.along(), -2);
        CHECK.due("step() without it", z.step(), -1);
    }

    private static void dropIllegalArgument() {
        CHECK.sentence("Promise 8", "Illegal argument.");
        CHECK.due("the first", busy().drop(0), 2);
        CHECK.due("the last", busy().drop(3), 2);
        for (int clause : withFarInts(-1, -2, 2, 4, 5, 599, 600, 601)) {
            refusedArgument("drop(" + clause + ")", BenchCalls::busy, x -> x.drop(clause));
        }
        ProofBench twice = busy();
        twice.drop(3);
        CHECK.dueIllegalArgument("drop(3) twice", () -> twice.drop(3));
        CHECK.due("count(1)", twice.count(1), 2);
    }

    private static void atInTheOrderAdded() {
        CHECK.sentence("Promise 9", "Literal i of a clause that is there, in the order in which they were added");
        int[] up = row(1, 16);
        int[] down = row(-16, -1);
        int[] mixed = {-16, 1, 15, -2, 14, 3, -13, 4, 12, -5, 11, 6, -10, 7, 9, -8};
        ProofBench x = given(up, down, mixed);
        dueClause("upwards", x, 0, up);
        dueClause("downwards", x, 1, down);
        dueClause("mixed", x, 2, mixed);
        draft(x, 3, 2, 1);
        x.give();
        literals(x, 2, 3, 1);
        x.give();
        dueClause("one order", x, 3, 3, 2, 1);
        dueClause("another order of the same", x, 4, 2, 3, 1);
    }

    private static void at0BehindTheLast() {
        CHECK.sentence("Promise 9", "0 behind the last one.");
        for (int size = 0; size <= 16; size++) {
            ProofBench x = given(row(1, size));
            if (size > 0) {
                CHECK.due("the last of " + size, x.at(0, size - 1), size);
            }
            for (int i : of(size, size + 1, 16, 17, 31, 32, 33, 63, 64, 65, 600, 65536, 1 << 28, (1 << 28) + 1,
                    1 << 30, Integer.MAX_VALUE - 1, Integer.MAX_VALUE)) {
                CHECK.due("at(0, " + i + ") of " + size, x.at(0, i), 0);
            }
        }
    }

    private static void atIllegalArgument() {
        CHECK.sentence("Promise 9", "Illegal argument: also if i is less than 0.");
        CHECK.due("at(0, 0)", busy().at(0, 0), 1);
        for (int i : of(-1, -2, -16, -32, -64, -65536, -(1 << 28), -(1 << 30), Integer.MIN_VALUE + 1, Integer.MIN_VALUE)) {
            refusedArgument("at(0, " + i + ")", BenchCalls::busy, x -> x.at(0, i));
            refusedArgument("at(0, " + i + ") of an empty clause", () -> given(of()), x -> x.at(0, i));
            refusedArgument("at(4, " + i + ")", BenchCalls::busy, x -> x.at(4, i));
        }
        for (int clause : withFarInts(-1, 2, 4, 599, 600)) {
            for (int i : of(0, 1, 16, Integer.MAX_VALUE, -1, Integer.MIN_VALUE)) {
                refusedArgument("at(" + clause + ", " + i + ")", BenchCalls::busy, x -> x.at(clause, i));
            }
        }
    }

    private static void toldDraftsOwnNotCounted() {
        CHECK.sentence("Promise 10", "How many variables clauses tell of (the draft's own not counted)");
        ProofBench x = given(of(1, 2), of(-2, 3), of(-3, 4));
        CHECK.due("three told", draft(x, 1).told(), 3);
        CHECK.due("two of them the draft's own", draft(x, 1, -2, -3).told(), 1);
        CHECK.due("all of them the draft's own", draft(x, 1, -2, -3, -4).told(), 0);
        CHECK.due("others of the draft's own", draft(x, 1, 9, 10, 16).told(), 3);
        CHECK.due("a draft of all variables", draft(given(of(-1)), row(1, 16)).told(), 0);
        CHECK.due("one variable told by two", given(of(1), of(1)).told(), 1);
    }

    private static void toldUntilNoOneTells() {
        CHECK.sentence("Promise 10", "setting out from the draft, until no one tells any more");
        for (int length = 0; length <= 16; length++) {
            ProofBench forwards = new ProofBench();
            ProofBench backwards = new ProofBench();
            for (int v = 1; v <= length; v++) {
                chainLink(forwards, v);
                chainLink(backwards, length + 1 - v);
            }
            CHECK.due("a chain of " + length, forwards.told(), length);
            CHECK.due("a chain of " + length + " backwards", backwards.told(), length);
            CHECK.due("again", backwards.told(), length);
            CHECK.due("step()", backwards.step(), -1);
        }
    }

    private static void chainLink(ProofBench x, int variable) {
        if (variable > 1) {
            x.literal(1 - variable);
        }
        give(x, variable);
    }

    private static void toldUntilOneIsWrong() {
        CHECK.sentence("Promise 10", "or one is wrong (17 in this case)");
        for (int length = 1; length <= 16; length++) {
            ProofBench x = given(of(-length));
            for (int v = length; v >= 1; v--) {
                chainLink(x, v);
            }
            CHECK.due("a chain of " + length + " and its contrary", x.told(), 17);
            x.drop(0);
            CHECK.due("without the contrary", x.told(), length);
        }
        CHECK.due("wrong at once", given(of()).told(), 17);
        CHECK.due("wrong at once, the draft having 16", draft(given(of()), row(1, 16)).told(), 17);
        CHECK.due("wrong by the draft", draft(given(row(1, 16)), row(1, 16)).told(), 17);
        ProofBench y = given(of(1), of());
        CHECK.due("wrong behind one that tells", y.told(), 17);
        CHECK.due("told() makes no clause", y.count(0), 2);
        CHECK.due("told() is no following", y.count(2), 0);
    }

    private static void isOverWithoutLiterals() {
        CHECK.sentence("Promise 11", "Whether a clause without literals is there.");
        ProofBench x = new ProofBench();
        CHECK.due("an empty draft is no clause", x.isOver(), false);
        give(x, 16);
        CHECK.due("one literal", x.isOver(), false);
        give(x, -16);
        CHECK.due("one that gainsays", x.isOver(), false);
        CHECK.due("told()", x.told(), 17);
        x.step();
        CHECK.due("one without, followed", x.isOver(), true);
        x.give();
        x.drop(2);
        CHECK.due("another without, given", x.isOver(), true);
        x.drop(3);
        CHECK.due("both dropped", x.isOver(), false);
        hints(x, 0, 1);
        x.along();
        CHECK.due("one without, along hints", x.isOver(), true);
        x.literal(1);
        CHECK.due("whatever the draft is", x.isOver(), true);
        x.give();
        CHECK.due("another behind it", x.isOver(), true);
    }

    private static void wrongByThoseDropped() {
        CHECK.sentence("Promise 12", "all that were given by then (those that were dropped, too) are true");
        ProofBench x = given(of(1), of(-1, 2));
        CHECK.due("none followed", x.wrong(), 0);
        x.literal(2);
        x.step();
        CHECK.due("followed by two", x.wrong(), 0);
        x.drop(0);
        x.drop(1);
        CHECK.due("both dropped", x.wrong(), 0);
        literals(x, 2, 3);
        CHECK.due("followed by the followed one", x.step(), 3);
        CHECK.due("it follows from those dropped", x.wrong(), 0);
        x.drop(2);
        draft(x, 3, 2, -9).hint(3);
        CHECK.due("along the last one", x.along(), 4);
        CHECK.due("it follows from those dropped, too", x.wrong(), 0);
    }

    private static void wrongByThen() {
        CHECK.sentence("Promise 12", "How many clauses were followed so far that do not follow");
        ProofBench x = given(of(1), of(-1));
        CHECK.due("given, but not followed", x.wrong(), 0);
        x.step();
        CHECK.due("no values make all that were given true", x.wrong(), 0);
        for (int clause = 0; clause <= 2; clause++) {
            x.drop(clause);
        }
        CHECK.due("all dropped", x.wrong(), 0);
        CHECK.due("not followed then", draft(x, 5).step(), -1);
        CHECK.due("what is not followed is not counted", x.wrong(), 0);
        give(x);
        CHECK.due("what is given is not counted", x.wrong(), 0);
        CHECK.due("count(2)", x.count(2), 1);
    }

    private static void countEach() {
        CHECK.sentence("Promise 13", "How many clauses there were (what = 0), are there (1), were followed (2), literals the draft has (3), hints there are (4).");
        ProofBench x = new ProofBench();
        dueCounts("new", x, 0, 0, 0, 0, 0);
        x.literal(-16);
        dueCounts("a literal", x, 0, 0, 0, 1, 0);
        x.hint(599);
        dueCounts("a hint", x, 0, 0, 0, 1, 1);
        x.give();
        dueCounts("given", x, 1, 1, 0, 0, 1);
        x.literal(-16);
        x.step();
        dueCounts("a step", x, 2, 2, 1, 0, 1);
        draft(x, -16).hint(0);
        x.along();
        dueCounts("along", x, 3, 3, 2, 0, 0);
        x.drop(0);
        dueCounts("a given one dropped", x, 3, 2, 2, 0, 0);
        x.drop(2);
        dueCounts("a followed one dropped", x, 3, 1, 2, 0, 0);
        literals(x, row(1, 16));
        hints(x, row(0, 39));
        dueCounts("all literals, all hints", x, 3, 1, 2, 16, 40);
        x.clear();
        dueCounts("clear", x, 3, 1, 2, 0, 0);
        x.drop(1);
        dueCounts("all dropped", x, 3, 0, 2, 0, 0);
    }

    private static void countIllegalArgument() {
        CHECK.sentence("Promise 13", "Illegal argument: what is none of these.");
        for (int what : withFarInts(-1, -2, -4, -5, 5, 6, 8, 16, 32, 256)) {
            refusedArgument("count(" + what + ")", BenchCalls::busy, x -> x.count(what));
            refusedArgument("count(" + what + ") of a new one", ProofBench::new, x -> x.count(what));
        }
        CHECK.due("count(0)", busy().count(0), 4);
        CHECK.due("count(4)", busy().count(4), 2);
    }
}
