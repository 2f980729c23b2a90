import java.util.List;
import java.util.function.Supplier;
import java.util.function.ToLongFunction;

/** The boundaries of what is saved and of exceptions: "Undo" and "Exceptions" in "Terms", promises 26 and 27. */
public final class StateBoundsTest extends Sentences {
    private static final List<ToLongFunction<PledgeRings>> NOT_UNDOABLE = List.of(
            x -> x.promiseOf(0, 0), x -> x.debt(0, 1), x -> x.net(0), x -> x.ring(0, 0), x -> x.room(0), x -> x.value(6),
            x -> x.saving(0), PledgeRings::bestRing, PledgeRings::costByRings, PledgeRings::leastCost,
            x -> x.ringsWithout(0), PledgeRings::keyPromise, x -> x.mutual(0), PledgeRings::digest);

    public static void main(String[] args) {
        whatIsSaved();
        howManyAreSaved();
        whatAStateHolds();
        exceptionsChangeNothing();
        exceptionsInOrder();
        promise26Undo();
        promise27Digest();
        closeSentences("StateBoundsTest");
    }

    private static void whatIsSaved() {
        in("Terms, Undo.");
        holds("Each successful call of a method whose description says \"undoable\" saves the state from before the call", () -> {
            undoable("begin(3)", Checks::some, x -> x.begin(3));
            undoable("promise(0, 4, 5, 6)", Checks::some, x -> x.promise(0, 4, 5, 6));
            undoable("pay(3, 6)", Checks::some, x -> x.pay(3, 6));
            undoable("dispute(3)", Checks::some, x -> x.dispute(3));
            undoable("settle(5)", Checks::some, x -> x.settle(5));
            undoable("discharge(1, 2)", Checks::some, x -> x.discharge(1, 2));
            undoable("dischargeBest()", Checks::some, PledgeRings::dischargeBest);
            undoable("dischargeAll()", Checks::some, PledgeRings::dischargeAll);
            undoable("carryOut()", Checks::some, PledgeRings::carryOut);
        });
        holds("a method whose description says \"undoable\"", () -> {
            for (ToLongFunction<PledgeRings> asked : NOT_UNDOABLE) {
                changesNothing("a call that is not undoable", PledgeRings::new, asked);
                changesNothing("a call that is not undoable", Checks::some, asked);
                changesNothing("a call that is not undoable", Checks::full, asked);
            }
            PledgeRings x = new PledgeRings();
            x.append('a');
            x.append('q');
            x.carryOut();
            x.clearText();
            due("undo() behind calls that are not undoable", answer(x::undo), STATE.getName());
        });
        holds("even if the call changes nothing", () -> {
            undoable("begin(4) of a new object", PledgeRings::new, x -> x.begin(4));
            undoable("dischargeAll() of a new object", PledgeRings::new, PledgeRings::dischargeAll);
            undoable("carryOut() of a new object", PledgeRings::new, PledgeRings::carryOut);
            PledgeRings x = new PledgeRings();
            x.begin(4);
            x.dischargeAll();
            x.carryOut();
            due("undo() of the third one that changed nothing", x.undo(), 2);
        });
    }

    /** A number of promises, the first of which owes 1, the next one 2, and so on. */
    private static PledgeRings promises(int number) {
        PledgeRings x = new PledgeRings();
        for (int n = 1; n <= number; n++) {
            x.promise(0, 1, n, 1);
        }
        return x;
    }

    private static void howManyAreSaved() {
        holds("at most 4 states are saved", () -> {
            for (int number = 1; number <= 6; number++) {
                PledgeRings x = promises(number);
                int saved = Math.min(number, 4);
                due("the digest with " + saved + " saved", x.digest(), digestOf(promisesOf(number), 0, saved));
                for (int left = saved - 1; left >= 0; left--) {
                    due("undo() behind " + number, x.undo(), left);
                }
                due("one more behind " + number, answer(x::undo), STATE.getName());
            }
        });
        holds("and the oldest is dropped first.", () -> {
            for (int number = 4; number <= 13; number++) {
                PledgeRings x = promises(number);
                for (int back = 1; back <= 4; back++) {
                    x.undo();
                    due("the promises, " + back + " back of " + number, x.value(1), number - back);
                    due("their sum", x.value(4), (number - back) * (number - back + 1) / 2);
                }
            }
            PledgeRings x = promises(6);
            x.undo();
            x.undo();
            x.pay(0, 1);
            x.pay(1, 1);
            x.pay(2, 1);
            due("undo() behind three more", x.undo() + x.undo() + x.undo(), 3 + 2 + 1);
            due("the promises", x.value(1), 4);
            due("undo()", x.undo(), 0);
            due("the promises then", x.value(1), 3);
        });
    }

    private static Supplier<PledgeRings> promisesOf(int number) {
        return () -> promises(number);
    }

    private static void whatAStateHolds() {
        holds("The saved state contains everything", () -> {
            PledgeRings x = busy();
            x.begin(7);
            x.promise(5, 6, 9, 9);
            x.undo();
            x.undo();
            dueValues(x, 5, 8, 7, 2, 1033, 9089, 1, 2, 2, 1, 1002);
            duePromise(x, 0, 0, 1, 5, 2, 0, 5, 0, 0);
            duePromise(x, 1, 0, 1, 4, 7, 0, 5, 0, 1);
            duePromise(x, 5, 3, 4, 1000, 9, 1, 1000, 0, 0);
            duePromise(x, 6, 4, 3, 0, 9, 0, 2, 2, 0);
            PledgeRings y = forty();
            long sum = y.value(4);
            y.dischargeAll();
            y.begin(2);
            y.undo();
            y.undo();
            due("the sum of 40 amounts", y.value(4), sum);
            due("the rings of 40 promises", y.value(6), 1713);
            duePromise(y, 39, 6, 3, 337, 4, 0, 337, 0, 0);
        });
        holds("except the text.", () -> {
            PledgeRings x = new PledgeRings();
            write(x, "a;");
            x.promise(0, 1, 1, 1);
            write(x, "p01:2,2;");
            x.undo();
            due("carryOut() of the text behind undo()", x.carryOut(), 2);
            x.clearText();
            x.undo();
            due("the length behind undo()", x.clearText(), 0);
            PledgeRings y = full();
            y.undo();
            due("a full text behind undo()", answer(() -> y.append('a')), STATE.getName());
        });
    }

    private static void exceptionsChangeNothing() {
        in("Terms, Exceptions.");
        holds("A call that throws an exception changes nothing.", () -> {
            refusedByAll("begin(8)", ARGUMENT, x -> x.begin(8));
            refusedByAll("promise(0, 7, 1, 1)", INDEX, x -> x.promise(0, 7, 1, 1));
            refusedByAll("promise(1, 1, 1, 1)", ARGUMENT, x -> x.promise(1, 1, 1, 1));
            refused("promise(0, 1, 1, 1)", STATE, Checks::full, x -> x.promise(0, 1, 1, 1));
            refusedByAll("pay(40, 1)", INDEX, x -> x.pay(40, 1));
            refused("pay(0, 0)", ARGUMENT, Checks::busy, x -> x.pay(0, 0));
            refused("pay(0, 6)", STATE, Checks::busy, x -> x.pay(0, 6));
            refusedByAll("dispute(40)", INDEX, x -> x.dispute(40));
            refused("dispute(5)", STATE, Checks::busy, x -> x.dispute(5));
            refusedByAll("settle(40)", INDEX, x -> x.settle(40));
            refused("settle(0)", STATE, Checks::busy, x -> x.settle(0));
            refusedByAll("discharge(-1, 1)", INDEX, x -> x.discharge(-1, 1));
            refused("discharge(0, 0)", ARGUMENT, Checks::busy, x -> x.discharge(0, 0));
            refused("discharge(0, 4)", STATE, Checks::busy, x -> x.discharge(0, 4));
            refused("dischargeBest()", STATE, PledgeRings::new, PledgeRings::dischargeBest);
            refusedByAll("append(128)", ARGUMENT, x -> x.append(128));
            refused("append(0)", STATE, Checks::full, x -> x.append(0));
            refused("undo()", STATE, PledgeRings::new, PledgeRings::undo);
            questionsThatThrow();
        });
    }

    private static void questionsThatThrow() {
        refusedByAll("promiseOf(40, 0)", INDEX, x -> x.promiseOf(40, 0));
        refused("promiseOf(0, 8)", ARGUMENT, Checks::busy, x -> x.promiseOf(0, 8));
        refusedByAll("debt(0, 7)", INDEX, x -> x.debt(0, 7));
        refusedByAll("net(7)", INDEX, x -> x.net(7));
        refusedByAll("ring(-1, 0)", INDEX, x -> x.ring(-1, 0));
        refused("ring(0, 7)", ARGUMENT, Checks::busy, x -> x.ring(0, 7));
        refusedByAll("room(-1)", INDEX, x -> x.room(-1));
        refusedByAll("value(11)", ARGUMENT, x -> x.value(11));
        refusedByAll("saving(-1)", INDEX, x -> x.saving(-1));
        refusedByAll("ringsWithout(40)", INDEX, x -> x.ringsWithout(40));
        refusedByAll("mutual(7)", INDEX, x -> x.mutual(7));
    }

    private static void exceptionsInOrder() {
        holds("If several exceptions apply, the one that is listed first is thrown.", () -> {
            refusedByAll("promise: no such party, amount", INDEX, x -> x.promise(7, 0, 0, 1));
            refusedByAll("promise: no such party to owe to, rate", INDEX, x -> x.promise(0, 7, 1, 10));
            refusedByAll("promise: no such party, both the same", INDEX, x -> x.promise(-1, -1, 1, 1));
            refused("promise: no such party, 40 promises", INDEX, Checks::full, x -> x.promise(0, 7, 1, 1));
            refused("promise: amount, 40 promises", ARGUMENT, Checks::full, x -> x.promise(0, 1, 0, 1));
            refused("promise: rate, 40 promises", ARGUMENT, Checks::full, x -> x.promise(0, 1, 1, 0));
            refused("promise: both the same, 40 promises", ARGUMENT, Checks::full, x -> x.promise(1, 1, 1, 1));
            refusedByAll("pay: no such promise, amount", INDEX, x -> x.pay(40, 0));
            refusedByAll("pay: no such promise, greater amount", INDEX, x -> x.pay(-1, Integer.MAX_VALUE));
            refused("pay: amount, not open", ARGUMENT, Checks::busy, x -> x.pay(6, 0));
            refusedByAll("discharge: no such ring, amount", INDEX, x -> x.discharge(-1, 0));
            refusedByAll("discharge: no such ring, greater amount", INDEX, x -> x.discharge(2365, Integer.MAX_VALUE));
            refusedByAll("promiseOf: no such promise, what", INDEX, x -> x.promiseOf(40, 8));
            refusedByAll("ring: no such ring, place", INDEX, x -> x.ring(2365, 7));
            refused("append: value, 100 bytes", ARGUMENT, Checks::full, x -> x.append(128));
            refused("append: value below 0, 100 bytes", ARGUMENT, Checks::full, x -> x.append(-1));
        });
    }

    private static void promise26Undo() {
        in("Promise 26");
        holds("Restores the most recently saved state", () -> {
            PledgeRings x = twoRings();
            x.pay(0, 1);
            x.pay(0, 2);
            x.undo();
            due("the amount behind undo()", x.promiseOf(0, 2), 4);
            x.undo();
            due("the amount behind undo() again", x.promiseOf(0, 2), 5);
        });
        holds("and removes it from the saved states.", () -> {
            PledgeRings x = twoRings();
            x.pay(0, 1);
            x.undo();
            due("the digest with 3 saved", x.digest(), digestOf(Checks::twoRings, 0, 3));
            x.pay(0, 1);
            due("undo() of another one", x.undo(), 3);
            due("undo() of the last promise", x.undo(), 2);
            due("the promises", x.value(1), 4);
        });
        holds("Returns the number of saved states that remain.", () -> {
            for (int left = 3; left >= 0; left--) {
                due("undo()", promises(left + 1).undo(), left);
            }
            due("undo() behind 40", forty().undo(), 3);
        });
        holds("Throws `IllegalStateException` if there is no saved state", () -> {
            refused("undo() of a new object", STATE, PledgeRings::new, PledgeRings::undo);
            refused("undo() behind four", STATE, StateBoundsTest::undone, PledgeRings::undo);
            PledgeRings x = undone();
            x.promise(0, 1, 1, 1);
            due("undo() of one more", x.undo(), 0);
        });
    }

    private static PledgeRings undone() {
        PledgeRings x = busy();
        for (int n = 0; n < 4; n++) {
            x.undo();
        }
        return x;
    }

    private static void promise27Digest() {
        in("Promise 27");
        holds("Returns a hash of the state.", () -> {
            changesNothing("digest()", PledgeRings::new, PledgeRings::digest);
            changesNothing("digest()", Checks::busy, PledgeRings::digest);
            due("digest() again", digestTwice(busy()), busy().digest());
        });
        holds("Start with h = 3701 and, for each of the following values v, set h = 31 * h + v", () -> {
            due("digest() of a new object", new PledgeRings().digest(), digestOf(PledgeRings::new, 0, 0));
            due("digest() of two parties", begun(2).digest(), digestOf(() -> begun(2), 0, 1));
            due("digest() of two rings", twoRings().digest(), digestOf(Checks::twoRings, 0, 4));
        });
        holds("the length of the text", () -> {
            PledgeRings x = new PledgeRings();
            long empty = x.digest();
            x.append(127);
            due("with one byte", x.digest() - empty, power(31, 11 + 4 * 5 + 3));
            due("with 26 bytes", some().digest(), digestOf(Checks::some, 26, 3));
        });
        holds("for each party its net(), and then its debt() to each party in ascending order, itself too", () -> {
            due("digest() of seven parties", begun(7).digest(), digestOf(() -> begun(7), 0, 1));
            due("digest() of busy()", busy().digest(), digestOf(Checks::busy, 26, 4));
        });
        holds("the number of saved states.", () -> {
            PledgeRings x = new PledgeRings();
            long before = x.digest();
            for (int saved = 1; saved <= 6; saved++) {
                x.begin(4);
                due("saved", x.digest() - before, Math.min(saved, 4));
            }
        });
        holds("Returns the hash, with the overflow of long arithmetic ignored.", () -> {
            due("digest() of 40 promises and 100 bytes", full().digest(), digestOf(Checks::full, 100, 4));
        });
    }

    private static long digestTwice(PledgeRings x) {
        x.digest();
        return x.digest();
    }

    private static long power(long base, int exponent) {
        long power = 1;
        for (int n = 0; n < exponent; n++) {
            power *= base;
        }
        return power;
    }
}
