import java.lang.management.ManagementFactory;
import java.util.ArrayList;
import java.util.List;

/** The edges that the sections "What it is" and "Terms" name, a method for each sentence. */
public final class TermsEdgesTest extends BenchCalls {
    /** Each of them tells or is wrong behind its neighbour, from whichever end one begins. */
    private static final int[][] CHAIN = {{1}, {-1, 2}, {-2, 3}, {-3}};

    public static void main(String[] args) {
        call512();
        variables1To16();
        literalsTrueAndFalse();
        clause16AtMost();
        clauseTrueWhenOneIs();
        clausesNumbered();
        thereUntilDropped();
        settingOut();
        wrongOrTells();
        trueFromThenOn();
        inWhateverOrder();
        oneAfterTheOther();
        memoryMadeAtFirst();
        clauseNoneOrNotThere();
        firstNamedIsThrown();
        throwingChangesNothing();
        CHECK.end();
    }

    private static ProofBench after511Calls() {
        ProofBench x = new ProofBench();
        for (int call = 1; call <= 511; call++) {
            x.give();
        }
        return x;
    }

    private static void call512() {
        CHECK.sentence("What it is", "An object is used for at most 512 calls after it has been made");
        CHECK.due("literal(-16)", after511Calls().literal(-16), 1);
        CHECK.due("hint(599)", after511Calls().hint(599), 1);
        CHECK.due("clear()", after511Calls().clear(), 0);
        CHECK.due("give()", after511Calls().give(), 511);
        CHECK.due("step()", after511Calls().step(), 511);
        CHECK.due("along()", after511Calls().along(), -1);
        CHECK.due("drop(510)", after511Calls().drop(510), 0);
        CHECK.due("at(510, 0)", after511Calls().at(510, 0), 0);
        CHECK.due("told()", after511Calls().told(), 17);
        CHECK.due("isOver()", after511Calls().isOver(), true);
        CHECK.due("wrong()", after511Calls().wrong(), 0);
        CHECK.due("count(0)", after511Calls().count(0), 511);
        CHECK.dueIllegalArgument("drop(511)", () -> after511Calls().drop(511));
        CHECK.dueIllegalArgument("at(511, 0)", () -> after511Calls().at(511, 0));

        ProofBench x = new ProofBench();
        for (int clause = 0; clause < 511; clause++) {
            CHECK.due("step() or give()", clause == 0 ? x.give() : x.step(), clause);
        }
        CHECK.due("count(2) as call 512", x.count(2), 510);
    }

    private static void variables1To16() {
        CHECK.sentence("Terms", "VARIABLES are 1 .. 16");
        for (int v = 1; v <= 16; v++) {
            dueLiteral(v);
            dueLiteral(-v);
        }
        for (int l : withFarInts(0, 17, -17, 18, -18, 31, -31, 32, -32, 33, -33, 48, -48, 64, -64)) {
            refusedArgument("literal(" + l + ") to an empty draft", ProofBench::new, x -> x.literal(l));
            refusedArgument("literal(" + l + ") to a draft", BenchCalls::busy, x -> x.literal(l));
        }
    }

    private static void dueLiteral(int l) {
        ProofBench x = new ProofBench();
        CHECK.due("literal(" + l + ")", x.literal(l), 1);
        x.give();
        dueClause("literal(" + l + ")", x, 0, l);
    }

    private static void literalsTrueAndFalse() {
        CHECK.sentence("Terms", "a LITERAL is a variable v, true when v is, or -v, true when v is false");
        for (int v = 1; v <= 16; v++) {
            CHECK.due(v + " false", draft(given(of(v)), v).told(), 17);
            CHECK.due(v + " true", draft(given(of(v)), -v).told(), 0);
            CHECK.due(-v + " false", draft(given(of(-v)), -v).told(), 17);
            CHECK.due(-v + " true", draft(given(of(-v)), v).told(), 0);
            CHECK.due(v + " open", given(of(v)).told(), 1);
            CHECK.due(v + " and " + -v, given(of(v), of(-v)).told(), 17);
        }
    }

    private static void clause16AtMost() {
        CHECK.sentence("Terms", "A CLAUSE is a row of literals, 16 at most, no variable twice");
        for (int last : of(16, -16)) {
            ProofBench x = draft(new ProofBench(), row(1, 15));
            CHECK.due("literal 16 of 16", x.literal(last), 16);
            CHECK.due("give()", x.give(), 0);
            CHECK.due("literal 15", x.at(0, 14), 15);
            CHECK.due("literal 16", x.at(0, 15), last);
            CHECK.due("behind it", x.at(0, 16), 0);
        }
        for (int l = -17; l <= 17; l++) {
            int more = l;
            refusedArgument("literal(" + l + ") behind 16", TermsEdgesTest::fullDraft, x -> x.literal(more));
        }
    }

    private static ProofBench fullDraft() {
        return draft(fourClauses(), -16, 1, 2, 3, 4, 5, 6, 7, -8, 9, 10, 11, 12, 13, 14, 15);
    }

    private static void clauseTrueWhenOneIs() {
        CHECK.sentence("Terms", "it is true when one of them is");
        for (int v = 1; v <= 16; v++) {
            int[] oneTrue = row(1, 16);
            oneTrue[v - 1] = -v;
            ProofBench x = draft(given(row(1, 16)), oneTrue);
            CHECK.due(v + " true, 15 false: told()", x.told(), 0);
            CHECK.due(v + " true, 15 false: step()", x.step(), -1);
            x.hint(0);
            CHECK.due(v + " true, 15 false: along()", x.along(), -1);
        }
        CHECK.due("one true, one open", draft(given(of(1, 2)), -1).told(), 0);
    }

    private static void clausesNumbered() {
        CHECK.sentence("Terms", "CLAUSES are numbered 0, 1, .. as they come");
        ProofBench x = new ProofBench();
        CHECK.due("the first, given", give(x, 1), 0);
        CHECK.due("the second, followed", draft(x, 1, 2).step(), 1);
        draft(x, 1, 3).hint(0);
        CHECK.due("the third, along hints", x.along(), 2);
        x.drop(2);
        CHECK.due("the last being dropped", x.give(), 3);
        for (int clause : of(0, 1, 3)) {
            x.drop(clause);
        }
        CHECK.due("all being dropped", x.give(), 4);
        dueCounts("at last", x, 5, 1, 2, 0, 0);
    }

    private static void thereUntilDropped() {
        CHECK.sentence("Terms", "each is THERE until it is dropped");
        ProofBench x = given(of(1), of(2), of(3));
        CHECK.due("told() before", x.told(), 3);
        x.drop(1);
        dueClause("the one before it", x, 0, 1);
        CHECK.dueIllegalArgument("at() of it", () -> x.at(1, 0));
        dueClause("the one behind it", x, 2, 3);
        CHECK.due("told() of it no more", x.told(), 2);
        CHECK.due("count(1)", x.count(1), 2);
        give(x, 2);
        CHECK.dueIllegalArgument("at() of it, the same being given anew", () -> x.at(1, 0));
        CHECK.due("told() by the new one", x.told(), 3);
    }

    private static void settingOut() {
        CHECK.sentence("Terms", "all its literals are false (so the variables of others are open)");
        for (int size = 0; size <= 16; size++) {
            ProofBench x = new ProofBench();
            for (int v = 1; v <= 16; v++) {
                give(x, -v);
            }
            CHECK.due(size + " false, all others told", draft(x, row(1, size)).told(), 16 - size);
        }
        ProofBench y = given(of(1, 2));
        CHECK.due("from an empty draft", y.told(), 0);
        CHECK.due("from 1", draft(y, 1).told(), 1);
        CHECK.due("from an empty draft again", draft(y).told(), 0);
    }

    private static void wrongOrTells() {
        CHECK.sentence("Terms", "WRONG if all its literals are false; it TELLS a literal if that is open and all its others are false");
        for (int size = 0; size <= 16; size++) {
            ProofBench x = given(row(1, size));
            CHECK.due("all " + size + " false: told()", draft(x, row(1, size)).told(), 17);
            dueAlongFirst("all " + size + " false: along()", x, 1);
            if (size >= 1) {
                CHECK.due("one of " + size + " open: told()", draft(x, row(2, size)).told(), 1);
                dueAlongFirst("one of " + size + " open: along()", x, -2);
            }
            if (size >= 2) {
                CHECK.due("two of " + size + " open: told()", draft(x, row(3, size)).told(), 0);
                dueAlongFirst("two of " + size + " open: along()", x, -1);
            }
        }
    }

    private static void dueAlongFirst(String what, ProofBench x, int want) {
        x.hint(0);
        CHECK.due(what, x.along(), want);
    }

    private static void trueFromThenOn() {
        CHECK.sentence("Terms", "then that is true from then on");
        CHECK.due("it makes a clause true", given(of(1), of(1, 2)).told(), 1);
        CHECK.due("it makes a literal false", given(of(1), of(-1, 2)).told(), 2);
        CHECK.due("it makes a clause wrong", given(of(1), of(-1)).told(), 17);
        ProofBench x = given(of(1), of(-1, 2), of(-1, 3), of(-2, -3));
        hints(x, 0, 0);
        CHECK.due("told once, then true", x.along(), -2);
        x.clear();
        hints(x, 0, 1, 2, 3);
        CHECK.due("two told by it", x.along(), 4);
        x.hint(3);
        CHECK.due("but open in the next setting out", x.along(), -1);
    }

    private static void inWhateverOrder() {
        CHECK.sentence("Terms", "there comes a wrong one, in whatever order they are taken");
        for (int[] order : ordersOfFour()) {
            ProofBench x = given(CHAIN[order[0]], CHAIN[order[1]], CHAIN[order[2]], CHAIN[order[3]]);
            CHECK.due("told()", x.told(), 17);
            CHECK.due("step()", x.step(), 4);
            CHECK.due("isOver()", x.isOver(), true);
            x.drop(4);
            for (int clause = 0; clause < 4; clause++) {
                if (order[clause] == 0) {
                    x.drop(clause);
                }
            }
            CHECK.due("told(), an end being dropped", x.told(), 3);
            CHECK.due("step(), an end being dropped", x.step(), -1);
        }
    }

    private static void oneAfterTheOther() {
        CHECK.sentence("Terms", "of each of them, one after the other, it holds that it is there and tells a literal, but of the last one that it is there and wrong");
        int followed = 0;
        for (int[] order : ordersOfFour()) {
            ProofBench x = given(CHAIN);
            hints(x, order);
            int badPlace = badPlaceInChain(order);
            CHECK.due("along()", x.along(), badPlace < 0 ? 4 : -1 - badPlace);
            followed += badPlace < 0 ? 1 : 0;
        }
        CHECK.due("orders of four that go along", followed, 8);
    }

    /** A link of the chain tells behind an end or a neighbour; the fourth to come is wrong then. */
    private static int badPlaceInChain(int[] order) {
        boolean[] taken = new boolean[4];
        for (int place = 0; place < 4; place++) {
            int link = order[place];
            boolean tells = link == 0 || link == 3 || taken[link - 1] || taken[link + 1];
            if (!tells) {
                return place;
            }
            taken[link] = true;
        }
        return -1;
    }

    private static List<int[]> ordersOfFour() {
        List<int[]> orders = new ArrayList<>();
        for (int code = 0; code < 256; code++) {
            int[] order = {code & 3, (code >> 2) & 3, (code >> 4) & 3, (code >> 6) & 3};
            int seen = 0;
            for (int link : order) {
                seen |= 1 << link;
            }
            if (seen == 15) {
                orders.add(order);
            }
        }
        return orders;
    }

    private static void memoryMadeAtFirst() {
        CHECK.sentence("Terms", "All memory is made at first.");
        com.sun.management.ThreadMXBean threads =
            (com.sun.management.ThreadMXBean) ManagementFactory.getThreadMXBean();
        long me = Thread.currentThread().getId();
        long least = Long.MAX_VALUE;
        // The first rounds load classes; only what every round makes is made by the calls.
        for (int round = 0; round < 10; round++) {
            ProofBench x = new ProofBench();
            long before = threads.getThreadAllocatedBytes(me);
            allCalls(x);
            least = Math.min(least, threads.getThreadAllocatedBytes(me) - before);
        }
        CHECK.due("bytes made by calls", least, 0);
    }

    private static void allCalls(ProofBench x) {
        for (int round = 0; round < 30; round++) {
            x.literal(1);
            x.literal(-16);
            x.give();
            x.literal(1);
            x.step();
            x.literal(-16);
            x.step();
            x.hint(0);
            x.along();
            x.clear();
            x.at(0, 1);
            x.told();
            x.isOver();
            x.wrong();
            x.count(2);
            x.drop(x.count(0) - 1);
        }
    }

    private static void clauseNoneOrNotThere() {
        CHECK.sentence("Terms", "In all calls illegal argument: a literal or clause is none, or is not there.");
        refusedArgument("literal(0)", BenchCalls::busy, x -> x.literal(0));
        for (int clause : withFarInts(-1, 2, 4, 5, 599, 600, 601)) {
            refusedArgument("drop(" + clause + ")", BenchCalls::busy, x -> x.drop(clause));
            refusedArgument("at(" + clause + ", 0)", BenchCalls::busy, x -> x.at(clause, 0));
        }
        for (int clause : of(0, 1, 3)) {
            CHECK.due("drop(" + clause + ")", busy().drop(clause), 2);
            CHECK.due("at(" + clause + ", 0)", busy().at(clause, 0), clause == 3 ? -1 : 1);
        }
    }

    private static void firstNamedIsThrown() {
        CHECK.sentence("Terms", "Of several exceptions the one named first is thrown");
        for (int clause : withFarInts(-1, 600)) {
            refusedArgument("hint(" + clause + ") of a full row", BenchCalls::busyWithAllHints, x -> x.hint(clause));
        }
        for (int clause : of(0, 599)) {
            refusedState("hint(" + clause + ") to a full row", BenchCalls::busyWithAllHints, x -> x.hint(clause));
        }
    }

    private static void throwingChangesNothing() {
        CHECK.sentence("Terms", "a call that throws changes nothing");
        ProofBench x = busyWithAllHints();
        for (int wrong : withFarInts(-1, 600)) {
            CHECK.dueIllegalArgument("literal", () -> x.literal(wrong == -1 ? 1 : wrong));
            CHECK.dueIllegalArgument("hint", () -> x.hint(wrong));
            CHECK.dueIllegalArgument("drop", () -> x.drop(wrong));
            CHECK.dueIllegalArgument("at", () -> x.at(wrong, 0));
            CHECK.dueIllegalArgument("count", () -> x.count(wrong));
            CHECK.dueIllegalState("hint", () -> x.hint(0));
        }
        CHECK.same("seen from outside", view(x), view(busyWithAllHints()));
        CHECK.same("laid bare", laidBare(x), laidBare(busyWithAllHints()));

        ProofBench y = new ProofBench();
        CHECK.dueIllegalArgument("literal(17)", () -> y.literal(17));
        CHECK.dueIllegalArgument("hint(600)", () -> y.hint(600));
        CHECK.dueIllegalArgument("drop(0)", () -> y.drop(0));
        CHECK.dueIllegalArgument("at(0, 0)", () -> y.at(0, 0));
        CHECK.dueIllegalArgument("count(5)", () -> y.count(5));
        CHECK.same("a new object", laidBare(y), laidBare(new ProofBench()));
    }
}
