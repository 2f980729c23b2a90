import java.util.function.ToLongFunction;

/** The boundaries that the document names for the calls that only tell something: promises 10 to 22. */
public final class QuestionsBoundsTest extends Sentences {
    private static final int LEAST = Integer.MIN_VALUE;
    private static final int MOST = Integer.MAX_VALUE;

    public static void main(String[] args) {
        promise10PromiseOf();
        promise11Debt();
        promise12Net();
        promise13Ring();
        promise14Room();
        promise15Value();
        promise15Refused();
        promise16Saving();
        promise17BestRing();
        promise18CostByRings();
        promise19LeastCost();
        promise20RingsWithout();
        promise21KeyPromise();
        promise22Mutual();
        closeSentences("QuestionsBoundsTest");
    }

    private static void noPromise(String call, ToLongFunction<Asked> asked) {
        for (int promise : new int[] {-1, 40, LEAST, MOST}) {
            refusedByAll(call + " of promise " + promise, INDEX, x -> asked.applyAsLong(new Asked(x, promise)));
        }
        refusedByAll(call + " of promise value(1)", INDEX, x -> asked.applyAsLong(new Asked(x, x.value(1))));
    }

    private static void noParty(String call, ToLongFunction<Asked> asked) {
        for (int party : new int[] {-1, 7, LEAST, MOST}) {
            refusedByAll(call + " of party " + party, INDEX, x -> asked.applyAsLong(new Asked(x, party)));
        }
        refusedByAll(call + " of party value(0)", INDEX, x -> asked.applyAsLong(new Asked(x, x.value(0))));
    }

    private static void noRing(String call, ToLongFunction<Asked> asked) {
        for (int ring : new int[] {-1, 2365, LEAST, MOST}) {
            refusedByAll(call + " of ring " + ring, INDEX, x -> asked.applyAsLong(new Asked(x, ring)));
        }
        refusedByAll(call + " of ring value(6)", INDEX, x -> asked.applyAsLong(new Asked(x, x.value(6))));
    }

    /** An object and the number that it is asked about. */
    private record Asked(PledgeRings x, int number) {
    }

    private static void changesNothingAnywhere(String call, ToLongFunction<PledgeRings> asked) {
        changesNothing(call + " of a new object", PledgeRings::new, asked);
        changesNothing(call + " of some", Checks::some, asked);
        changesNothing(call + " of a full one", Checks::full, asked);
    }

    private static void promise10PromiseOf() {
        in("Promise 10");
        holds("Returns something about a promise.", () -> {
            duePromise(busy(), 0, 0, 1, 5, 2, 0, 5, 0, 0);
            duePromise(busy(), 7, 2, 3, 7, 4, 0, 7, 0, 0);
            changesNothingAnywhere("promiseOf(0, 2)", x -> x.promiseOf(0, 2));
        });
        holds("`promise`: number of a promise", () -> {
            duePromise(forty(), 0, 0, 1, 1000, 1, 0, 1000, 0, 0);
            duePromise(forty(), 39, 6, 3, 337, 4, 0, 337, 0, 0);
        });
        holds("`what`: 0 the party that owes, 1 the party to which it is owed, 2 its amount, 3 its rate", () -> {
            duePromise(busy(), 5, 3, 4, 1000, 9);
            duePromise(busy(), 6, 4, 3, 0, 9);
        });
        holds("4 1 if it is disputed, otherwise 0", () -> {
            due("promise 5 of busy()", busy().promiseOf(5, 4), 1);
            due("promise 4 of busy()", busy().promiseOf(4, 4), 0);
        });
        holds("5 its amount at first, 6 what was paid of it, 7 what was released of it", () -> {
            PledgeRings x = twoRings();
            x.pay(1, 1);
            x.discharge(0, 3);
            x.pay(1, 1);
            duePromise(x, 1, 0, 1, 0, 7, 0, 5, 2, 3);
            PledgeRings y = twoRings();
            y.discharge(0, 1);
            y.discharge(0, 2);
            duePromise(y, 1, 0, 1, 2, 7, 0, 5, 0, 3);
        });
        holds("Returns that value.", () -> {
            due("promiseOf(0, 0)", busy().promiseOf(0, 0), 0);
            due("promiseOf(1, 7)", busy().promiseOf(1, 7), 1);
        });
        holds("Throws `IndexOutOfBoundsException` if there is no such promise", () -> {
            noPromise("promiseOf", asked -> asked.x.promiseOf(asked.number, 0));
            noPromise("promiseOf", asked -> asked.x.promiseOf(asked.number, 7));
        });
        holds("Throws `IllegalArgumentException` if what is out of range", () -> {
            for (int what : new int[] {-1, 8, LEAST, MOST}) {
                refused("promiseOf(0, " + what + ")", ARGUMENT, Checks::busy, x -> x.promiseOf(0, what));
                refused("promiseOf(39, " + what + ")", ARGUMENT, Checks::full, x -> x.promiseOf(39, what));
            }
        });
    }

    private static void promise11Debt() {
        in("Promise 11");
        holds("Returns a debt.", () -> {
            due("debt(0, 1)", busy().debt(0, 1), 9);
            due("debt(1, 2), disputed", busy().debt(1, 2), 0);
            changesNothingAnywhere("debt(0, 1)", x -> x.debt(0, 1));
        });
        holds("`from`: the party that owes", () -> {
            due("debt(6, 3), of the last party", forty().debt(6, 3), 337);
            due("debt(3, 6)", forty().debt(3, 6), 609);
        });
        holds("`to`: the party to which it is owed", () -> {
            due("debt(0, 6), to the last party", forty().debt(0, 6), 915);
            due("debt(6, 0)", forty().debt(6, 0), 388);
        });
        holds("Returns the debt; 0 if both are the same.", () -> {
            due("debt(0, 0) of a new object", new PledgeRings().debt(0, 0), 0);
            due("debt(0, 0)", forty().debt(0, 0), 0);
            due("debt(6, 6), of the last party", forty().debt(6, 6), 0);
        });
        holds("Throws `IndexOutOfBoundsException` if there is no such party", () -> {
            noParty("debt, who owes,", asked -> asked.x.debt(asked.number, 0));
            noParty("debt, to whom,", asked -> asked.x.debt(0, asked.number));
            noParty("debt, both the same,", asked -> asked.x.debt(asked.number, asked.number));
        });
    }

    private static void promise12Net() {
        in("Promise 12");
        holds("Returns the net position of a party.", () -> {
            dueNets(busy(), 2, 0, -9, -993, 1000);
            changesNothingAnywhere("net(0)", x -> x.net(0));
        });
        holds("`party`: number of a party", () -> {
            due("net(0)", busy().net(0), 2);
            due("net(4), of the last one", busy().net(4), 1000);
        });
        holds("Returns the net position.", () -> {
            PledgeRings x = busy();
            x.settle(3);
            x.dischargeAll();
            dueNets(x, 2, 0, -9, -993, 1000);
            due("net(3) of a new object", new PledgeRings().net(3), 0);
        });
        holds("Throws `IndexOutOfBoundsException` if there is no such party", () -> {
            noParty("net", asked -> asked.x.net(asked.number));
        });
    }

    private static void promise13Ring() {
        in("Promise 13");
        holds("Returns a party of a ring.", () -> {
            dueRing(some(), 0, 0, 1);
            dueRing(some(), 1, 0, 1, 2);
            changesNothing("ring(1, 2)", Checks::some, x -> x.ring(1, 2));
        });
        holds("`ring`: number of a ring", () -> {
            dueRing(forty(), 0, 0, 1);
            dueRing(forty(), 1712, 4, 5);
        });
        holds("`place`: 0 for the first one, and so on", () -> {
            PledgeRings x = seven();
            int[] want = {0, 6, 1, 5, 2, 4, 3};
            for (int place = 0; place <= 6; place++) {
                due("ring(0, " + place + ")", x.ring(0, place), want[place]);
            }
        });
        holds("Returns the party; NONE if the ring has not so many.", () -> {
            due("the last place of two", some().ring(0, 1), 1);
            for (int place = 2; place <= 6; place++) {
                due("place " + place + " of two", some().ring(0, place), NONE);
            }
            PledgeRings x = seven();
            x.promise(4, 0, 1, 1);
            due("the last place of six", x.ring(0, 5), 4);
            due("place 6 of six", x.ring(0, 6), NONE);
            due("place 6 of seven", x.ring(1, 6), 3);
        });
        holds("Throws `IndexOutOfBoundsException` if there is no such ring", () -> {
            noRing("ring, place 0,", asked -> asked.x.ring(asked.number, 0));
            noRing("ring, place 6,", asked -> asked.x.ring(asked.number, 6));
        });
        holds("Throws `IllegalArgumentException` if place is not from 0 to 6", () -> {
            for (int place : new int[] {-1, 7, LEAST, MOST}) {
                refused("ring(0, " + place + ")", ARGUMENT, Checks::busy, x -> x.ring(0, place));
                refused("ring(1712, " + place + ")", ARGUMENT, Checks::full, x -> x.ring(1712, place));
            }
        });
    }

    private static PledgeRings seven() {
        PledgeRings x = begun(7);
        carryOut(x, "p06:1,1;p61:1,1;p15:1,1;p52:1,1;p24:1,1;p43:1,1;p30:1,1;");
        return x;
    }

    private static void promise14Room() {
        in("Promise 14");
        holds("Returns the room of a ring.", () -> {
            due("room(0)", some().room(0), 4);
            due("room(1)", some().room(1), 6);
            changesNothing("room(1)", Checks::some, x -> x.room(1));
        });
        holds("`ring`: number of a ring", () -> {
            due("room(0)", forty().room(0), 1000 - 17 * 6);
            due("room(1712), the last one", forty().room(1712), 1000 - 17 * 34);
        });
        holds("Returns the room.", () -> {
            due("the least room", seven().room(0), 1);
            PledgeRings x = begun(2);
            for (int n = 0; n < 40; n++) {
                x.promise(n % 2, 1 - n % 2, 1000, 1);
            }
            due("the greatest room", x.room(0), 20000);
        });
        holds("Throws `IndexOutOfBoundsException` if there is no such ring", () -> {
            noRing("room", asked -> asked.x.room(asked.number));
        });
    }

    private static void promise15Value() {
        in("Promise 15");
        holds("Returns a number.", () -> {
            dueValues(new PledgeRings(), 4, 0, 0, 0, 0, 0, 0, 0, 0, 0, 0);
            dueValues(busy(), 5, 8, 7, 2, 1033, 9089, 1, 2, 2, 1, 1002);
            changesNothingAnywhere("value(6)", x -> x.value(6));
        });
        holds("`what`: 0 the parties, 1 the promises, 2 those that are open", () -> {
            PledgeRings x = busy();
            x.pay(7, 6);
            due("open ones, one of 1", x.value(2), 7);
            x.pay(7, 1);
            due("open ones, none of 0", x.value(2), 6);
            due("the promises, open or not", x.value(1), 8);
        });
        holds("3 those that are disputed (open or not)", () -> {
            PledgeRings x = busy();
            x.pay(3, 6);
            due("disputed ones, one of 0", x.value(3), 2);
            due("open ones", x.value(2), 6);
        });
        holds("4 the sum of all amounts, 5 the cost of all promises, 6 the rings", () -> {
            due("the greatest sum", fortyOf1000().value(4), 40000);
            due("the greatest cost", fortyOf1000().value(5), 360000);
            due("no ring", fortyOf1000().value(6), 0);
            due("disputed ones have an amount, too", twoRingsDisputed().value(4), 28);
            due("disputed ones have a cost, too", twoRingsDisputed().value(5), 71);
            due("the rings", twoRingsDisputed().value(6), 0);
        });
        holds("7 the sum of all payments so far, 8 the sum of all that was released from promises so far", () -> {
            PledgeRings x = twoRings();
            x.pay(0, 2);
            x.pay(0, 3);
            x.dischargeBest();
            due("two payments", x.value(7), 5);
            due("a release from three debts", x.value(8), 15);
            x.costByRings();
            x.leastCost();
            due("behind a what-if question", x.value(8), 15);
        });
        holds("9 the discharges of rings so far", () -> {
            PledgeRings x = twoRings();
            x.discharge(0, 1);
            due("one by 1", x.value(9), 1);
            x.dischargeBest();
            due("the best one", x.value(9), 2);
            x.dischargeAll();
            due("and all", x.value(9), 3);
            x.dischargeAll();
            due("and none", x.value(9), 3);
        });
        holds("10 the sum of the net positions that are above 0", () -> {
            due("2 and 1000", busy().value(10), 1002);
            due("none above 0", seven().value(10), 0);
            due("the greatest", fortyOf1000().value(10), 40000);
        });
    }

    private static void promise15Refused() {
        holds("Returns that number.", () -> {
            due("value(0)", new PledgeRings().value(0), 4);
            due("value(10)", twoRings().value(10), 2);
        });
        holds("Throws `IllegalArgumentException` if what is out of range", () -> {
            for (int what : new int[] {-1, 11, LEAST, MOST}) {
                refusedByAll("value(" + what + ")", ARGUMENT, x -> x.value(what));
            }
        });
    }

    private static PledgeRings fortyOf1000() {
        PledgeRings x = begun(7);
        for (int n = 0; n < 40; n++) {
            x.promise(n % 6, 6, 1000, 9);
        }
        return x;
    }

    private static PledgeRings twoRingsDisputed() {
        PledgeRings x = twoRings();
        for (int i = 0; i < 5; i++) {
            x.dispute(i);
        }
        return x;
    }

    private static void promise16Saving() {
        in("Promise 16");
        holds("Tells the saving of a ring.", () -> {
            due("saving(0)", some().saving(0), 4 * 7 + 4 * 3);
            due("saving(1)", some().saving(1), 5 * 7 + 2 + 6 + 6);
            changesNothing("saving(1)", Checks::some, x -> x.saving(1));
        });
        holds("`ring`: number of a ring", () -> {
            due("saving(0)", forty().saving(0), (1000 - 17 * 6) * (1 + 7));
            due("saving(1712), the last one", forty().saving(1712), (1000 - 17 * 34) * (2 + 8));
        });
        holds("Returns the saving.", () -> {
            due("of seven debts of 1", seven().saving(0), 7);
            due("as a discharge", busy().saving(0), busy().dischargeBest());
        });
        holds("Throws `IndexOutOfBoundsException` if there is no such ring", () -> {
            noRing("saving", asked -> asked.x.saving(asked.number));
        });
    }

    private static void promise17BestRing() {
        in("Promise 17");
        holds("Finds the best ring.", () -> {
            due("bestRing()", some().bestRing(), 1);
            due("bestRing() of one", busy().bestRing(), 0);
            changesNothingAnywhere("bestRing()", PledgeRings::bestRing);
        });
        holds("Returns its number; NONE if there is no ring.", () -> {
            due("without a promise", new PledgeRings().bestRing(), NONE);
            due("without a debt", twoRingsDisputed().bestRing(), NONE);
            due("without a ring", fortyOf1000().bestRing(), NONE);
            due("of seven debts of 1", seven().bestRing(), 0);
            PledgeRings x = forty();
            int best = x.bestRing();
            due("its saving", x.saving(best), x.dischargeBest());
        });
    }

    private static void promise18CostByRings() {
        in("Promise 18");
        holds("Tells the cost of all promises behind discharging all.", () -> {
            due("of two rings", twoRings().costByRings(), 71 - 49 - 20);
            due("of what is disputed", twoRingsDisputed().costByRings(), 71);
            due("without a promise", new PledgeRings().costByRings(), 0);
            due("without a ring", fortyOf1000().costByRings(), 360000);
            due("of a ring alone", seven().costByRings(), 0);
            PledgeRings x = forty();
            int told = x.costByRings();
            x.dischargeAll();
            due("of 40 promises", x.value(5), told);
            changesNothingAnywhere("costByRings()", PledgeRings::costByRings);
        });
        holds("Returns the cost.", () -> {
            due("costByRings()", busy().costByRings(), 9089 - 3 * 7 - 3 * 3);
        });
    }

    private static void promise19LeastCost() {
        in("Promise 19");
        holds("Tells the least cost of all promises that could stay", () -> {
            PledgeRings x = bestIsNotLeast();
            due("by the best ring first", x.costByRings(), 18);
            due("by the rings that save most together", x.leastCost(), 9);
            due("without a promise", new PledgeRings().leastCost(), 0);
            changesNothingAnywhere("leastCost()", PledgeRings::leastCost);
        });
        holds("if any amounts were released", () -> {
            due("a part of a promise", twoPromises(5, 3).leastCost(), 2 * 9);
            due("all of both", twoPromises(5, 5).leastCost(), 0);
            PledgeRings x = twoPromises(5, 5);
            x.promise(0, 1, 5, 1);
            due("of the promise with the greatest rate", x.leastCost(), 5);
        });
        holds("if any amounts were released", () -> {
            // The one ring is 1 2 3, with room 3: it saves 57 of 88.
            PledgeRings x = begun(4);
            carryOut(x, "p01:2,1;p12:5,1;p02:3,9;p23:3,9;p31:3,9;");
            due("no amount becomes more", x.leastCost(), 88 - 57);
            // The one ring is 1 4, with room 3: it saves 33 of 82.
            PledgeRings y = begun(5);
            carryOut(y, "p01:2,1;p41:6,2;p12:5,1;p14:3,9;p42:4,9;");
            due("no amount becomes more, of two ways into one", y.leastCost(), 82 - 33);
            // Ring 0 3 1 2 saves 23 of 33, and rings 0 2 and 1 3 save 28.
            PledgeRings z = new PledgeRings();
            carryOut(z, "p03:1,3;p02:1,1;p12:1,2;p13:1,9;p20:1,9;p31:1,9;");
            due("by the best ring first", z.costByRings(), 33 - 23);
            due("by the rings that save most together", z.leastCost(), 33 - 28);
        });
        holds("from the promises that are not disputed", () -> {
            PledgeRings x = twoPromises(5, 5);
            x.dispute(1);
            due("one of two disputed", x.leastCost(), 90);
            due("all disputed", twoRingsDisputed().leastCost(), 71);
        });
        holds("from none more than its amount", () -> {
            PledgeRings x = twoPromises(1000, 1);
            due("1 of 1000", x.leastCost(), 999 * 9);
            x.pay(1, 1);
            due("nothing of 1000", x.leastCost(), 9000);
        });
        holds("so that each party owes as much less as it is owed less.", () -> {
            due("no ring, nothing is released", fortyOf1000().leastCost(), 360000);
            due("a ring of seven", seven().leastCost(), 0);
            PledgeRings x = seven();
            x.pay(6, 1);
            due("a row of seven that is no ring", x.leastCost(), 6);
        });
        holds("Returns the cost.", () -> {
            due("leastCost()", busy().leastCost(), 9089 - 3 * 7 - 3 * 3);
        });
    }

    private static PledgeRings twoPromises(int there, int back) {
        PledgeRings x = begun(2);
        x.promise(0, 1, there, 9);
        x.promise(1, 0, back, 9);
        return x;
    }

    /** The best ring is 0 1 2, of 27; 0 1 and 1 2 3 would save 18 + 18. */
    private static PledgeRings bestIsNotLeast() {
        PledgeRings x = new PledgeRings();
        carryOut(x, "p01:1,9;p12:1,9;p20:1,9;p10:1,9;p23:1,5;p31:1,4;");
        return x;
    }

    private static void promise20RingsWithout() {
        in("Promise 20");
        holds("Tells how many rings there would be if a promise was not there.", () -> {
            int[] want = {2, 2, 1, 1, 1};
            for (int i = 0; i < 5; i++) {
                due("ringsWithout(" + i + ")", twoRings().ringsWithout(i), want[i]);
            }
            changesNothing("ringsWithout(4)", Checks::some, x -> x.ringsWithout(4));
        });
        holds("`promise`: number of a promise", () -> {
            due("ringsWithout(0)", forty().ringsWithout(0), 1713 - 228);
            due("ringsWithout(39)", forty().ringsWithout(39), forty().value(6) - forty().dispute(39));
        });
        holds("Returns their number.", () -> {
            due("without one of a ring alone", seven().ringsWithout(6), 0);
            due("without a disputed one", busy().ringsWithout(3), 1);
            due("without one that is not open", busy().ringsWithout(6), 1);
            due("without one of two of a debt", busy().ringsWithout(0), 1);
            PledgeRings y = twoRings();
            y.dispute(0);
            due("without a disputed one as great as the debt", y.ringsWithout(0), 2);
            due("without the debt", y.ringsWithout(1), 0);
            PledgeRings x = busy();
            x.pay(0, 5);
            due("without the only open one of a debt", x.ringsWithout(1), 0);
            due("no ring at all", fortyOf1000().ringsWithout(0), 0);
        });
        holds("Throws `IndexOutOfBoundsException` if there is no such promise", () -> {
            noPromise("ringsWithout", asked -> asked.x.ringsWithout(asked.number));
        });
    }

    private static void promise21KeyPromise() {
        in("Promise 21");
        holds("Finds the open promise that is not disputed without which there would be the fewest rings.", () -> {
            due("keyPromise()", some().keyPromise(), 2);
            PledgeRings x = twoRings();
            x.dispute(0);
            due("the only one of a debt", x.keyPromise(), 1);
            PledgeRings y = begun(7);
            for (int n = 0; n < 38; n++) {
                y.promise(0, 1, 1, 9);
            }
            y.promise(1, 2, 1, 1);
            y.promise(2, 1, 1, 1);
            due("keyPromise(), the last but one of 40", y.keyPromise(), 38);
            changesNothingAnywhere("keyPromise()", PledgeRings::keyPromise);
        });
        holds("Returns the promise, of several the lowest one", () -> {
            due("of seven", seven().keyPromise(), 0);
            due("without a ring", fortyOf1000().keyPromise(), 0);
            PledgeRings x = new PledgeRings();
            carryOut(x, "p01:1,1;p10:1,1;p01:1,1;");
            x.pay(0, 1);
            due("past one that is not open", x.keyPromise(), 1);
            x.dispute(1);
            due("past a disputed one", x.keyPromise(), 2);
        });
        holds("NONE if there is none.", () -> {
            due("no promise", new PledgeRings().keyPromise(), NONE);
            due("none that is not disputed", twoRingsDisputed().keyPromise(), NONE);
            PledgeRings x = twoPromises(1, 1);
            x.discharge(0, 1);
            due("none that is open", x.keyPromise(), NONE);
            PledgeRings y = twoPromises(1, 1);
            y.pay(0, 1);
            y.dispute(1);
            due("one paid, one disputed", y.keyPromise(), NONE);
        });
    }

    private static void promise22Mutual() {
        in("Promise 22");
        holds("Tells the greatest amount by which one party could be released by rings of two parties alone.", () -> {
            due("mutual(0)", some().mutual(0), 4);
            due("mutual(2), in a ring of three alone", some().mutual(2), 0);
            due("mutual(3), whose debt is disputed", some().mutual(3), 0);
            changesNothingAnywhere("mutual(0)", x -> x.mutual(0));
        });
        holds("`party`: number of a party", () -> {
            due("mutual(0) of a new object", new PledgeRings().mutual(0), 0);
            due("mutual(3), of the last one", new PledgeRings().mutual(3), 0);
            due("mutual(6), of the last one", forty().mutual(6), 388 + 371 + 354 + 337);
        });
        holds("Returns the sum, over all other parties, of the lesser one of both debts between them.", () -> {
            due("3 and 4", twoPromises(3, 4).mutual(0), 3);
            due("4 and 3", twoPromises(4, 3).mutual(0), 3);
            due("3 and 3", twoPromises(3, 3).mutual(1), 3);
            due("one way alone", fortyOf1000().mutual(6), 0);
            PledgeRings x = begun(7);
            for (int n = 0; n < 20; n++) {
                x.promise(0, 1 + n % 6, 1000, 1);
                x.promise(1 + n % 6, 0, 1000, 1);
            }
            due("the greatest sum", x.mutual(0), 20000);
            due("four of them", x.mutual(1), 4000);
        });
        holds("Throws `IndexOutOfBoundsException` if there is no such party", () -> {
            noParty("mutual", asked -> asked.x.mutual(asked.number));
        });
    }
}
