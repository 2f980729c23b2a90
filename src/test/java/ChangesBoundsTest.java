/** The boundaries that the document names for a new object and the calls that change promises: promises 1 to 9. */
public final class ChangesBoundsTest extends Sentences {
    private static final int LEAST = Integer.MIN_VALUE;
    private static final int MOST = Integer.MAX_VALUE;

    public static void main(String[] args) {
        promise1New();
        promise2Begin();
        promise3Promise();
        promise3Refused();
        promise4Pay();
        promise4Refused();
        promise5Dispute();
        promise6Settle();
        promise7Discharge();
        promise7Refused();
        promise8DischargeBest();
        promise9DischargeAll();
        closeSentences("ChangesBoundsTest");
    }

    private static void promise1New() {
        in("Promise 1");
        holds("Creates 4 parties without promises.", () -> {
            PledgeRings x = new PledgeRings();
            dueValues(x, 4, 0, 0, 0, 0, 0, 0, 0, 0, 0, 0);
            dueNets(x, 0, 0, 0, 0);
            due("bestRing()", x.bestRing(), NONE);
            due("keyPromise()", x.keyPromise(), NONE);
            due("costByRings()", x.costByRings(), 0);
            due("leastCost()", x.leastCost(), 0);
            due("dischargeAll()", new PledgeRings().dischargeAll(), 0);
            due("the length of the text", x.clearText(), 0);
            refused("net(4)", INDEX, PledgeRings::new, y -> y.net(4));
            refused("promiseOf(0, 0)", INDEX, PledgeRings::new, y -> y.promiseOf(0, 0));
            refused("ring(0, 0)", INDEX, PledgeRings::new, y -> y.ring(0, 0));
            refused("undo()", STATE, PledgeRings::new, PledgeRings::undo);
        });
    }

    private static void promise2Begin() {
        in("Promise 2");
        holds("Begins with other parties: there are no promises", () -> {
            PledgeRings x = busy();
            x.begin(7);
            due("the parties", x.value(0), 7);
            due("the promises", x.value(1), 0);
            due("net(6)", x.net(6), 0);
            refused("promiseOf(0, 0) behind begin(5)", INDEX, ChangesBoundsTest::begunAnew, y -> y.promiseOf(0, 0));
            refused("net(5) behind begin(5)", INDEX, ChangesBoundsTest::begunAnew, y -> y.net(5));
        });
        holds("and all sums and counts are 0.", () -> {
            PledgeRings x = begunAnew();
            dueValues(x, 5, 0, 0, 0, 0, 0, 0, 0, 0, 0, 0);
            dueNets(x, 0, 0, 0, 0, 0);
            due("bestRing()", x.bestRing(), NONE);
            due("keyPromise()", x.keyPromise(), NONE);
            due("costByRings()", x.costByRings(), 0);
            due("leastCost()", x.leastCost(), 0);
            due("mutual(0)", x.mutual(0), 0);
            due("the first promise", x.promise(1, 0, 4, 4), 0);
            duePromise(x, 0, 1, 0, 4, 4, 0, 4, 0, 0);
        });
        holds("there are no promises, and all sums and counts are 0.", () -> {
            PledgeRings x = twoRings();
            x.pay(1, 1);
            x.discharge(0, 1);
            x.dispute(1);
            x.begin(4);
            x.promise(1, 0, 4, 4);
            due("the number of one made where one was before", x.promise(2, 3, 6, 8), 1);
            duePromise(x, 1, 2, 3, 6, 8, 0, 6, 0, 0);
            dueValues(x, 4, 2, 2, 0, 10, 64, 0, 0, 0, 0, 10);
            x.undo();
            x.undo();
            x.undo();
            duePromise(x, 1, 0, 1, 3, 7, 1, 5, 1, 1);
        });
        holds("Undoable.", () -> {
            undoable("begin(2)", PledgeRings::new, x -> x.begin(2));
            undoable("begin(4), as it was", PledgeRings::new, x -> x.begin(4));
            undoable("begin(7)", Checks::some, x -> x.begin(7));
            due("the saved states that were there stay", begunAnew().undo(), 3);
            due("the text stays", begunAnew().clearText(), 26);
        });
        holds("`parties`: 2 to 7", () -> {
            due("begin(2)", begun(2).value(0), 2);
            due("begin(7)", begun(7).value(0), 7);
        });
        holds("Returns the promises that there were.", () -> {
            due("begin(4) of a new object", new PledgeRings().begin(4), 0);
            due("begin(4) of 5", twoRings().begin(4), 5);
            due("begin(4), none of 8 counts less", busy().begin(4), 8);
            PledgeRings x = forty();
            due("begin(4) of 40", x.begin(4), 40);
            due("begin(4) again", x.begin(4), 0);
        });
        holds("Throws `IllegalArgumentException` if parties is out of range", () -> {
            for (int parties : new int[] {1, 8, 0, -1, -2, LEAST, MOST}) {
                refusedByAll("begin(" + parties + ")", ARGUMENT, x -> x.begin(parties));
            }
        });
    }

    private static PledgeRings begunAnew() {
        PledgeRings x = busy();
        x.begin(5);
        return x;
    }

    private static void promise3Promise() {
        in("Promise 3");
        holds("Makes a promise.", () -> {
            PledgeRings x = new PledgeRings();
            x.promise(3, 0, 1000, 9);
            dueValues(x, 4, 1, 1, 0, 1000, 9000, 0, 0, 0, 0, 1000);
            duePromise(x, 0, 3, 0, 1000, 9, 0, 1000, 0, 0);
            x.promise(0, 3, 1, 1);
            dueValues(x, 4, 2, 2, 0, 1001, 9001, 1, 0, 0, 0, 999);
            duePromise(x, 1, 0, 3, 1, 1, 0, 1, 0, 0);
        });
        holds("Undoable.", () -> {
            undoable("promise(0, 1, 1, 1)", PledgeRings::new, x -> x.promise(0, 1, 1, 1));
            undoable("promise(4, 3, 1000, 9)", Checks::some, x -> x.promise(4, 3, 1000, 9));
        });
        holds("`from`: the party that owes", () -> {
            PledgeRings x = begun(7);
            x.promise(0, 6, 3, 1);
            dueNets(x, -3, 0, 0, 0, 0, 0, 3);
        });
        holds("`to`: the party to which it is owed", () -> {
            PledgeRings x = begun(7);
            x.promise(6, 0, 3, 1);
            dueNets(x, 3, 0, 0, 0, 0, 0, -3);
        });
        holds("`amount`: 1 to 1000", () -> {
            PledgeRings x = new PledgeRings();
            due("promise(0, 1, 1, 5)", x.promise(0, 1, 1, 5), 0);
            due("promise(0, 1, 1000, 5)", x.promise(0, 1, 1000, 5), 1);
            due("debt(0, 1)", x.debt(0, 1), 1001);
        });
        holds("`rate`: 1 to 9", () -> {
            PledgeRings x = new PledgeRings();
            due("promise(0, 1, 5, 1)", x.promise(0, 1, 5, 1), 0);
            due("promise(0, 1, 5, 9)", x.promise(0, 1, 5, 9), 1);
            due("the cost", x.value(5), 50);
        });
        holds("Returns its number.", () -> {
            PledgeRings x = new PledgeRings();
            for (int n = 0; n < 40; n++) {
                due("the number", x.promise(0, 1, 1, 1), n);
            }
        });
    }

    private static void promise3Refused() {
        holds("Throws `IndexOutOfBoundsException` if there is no such party", () -> {
            for (int party : new int[] {-1, 7, 8, LEAST, MOST}) {
                refusedByAll("promise(" + party + ", 0, 1, 1)", INDEX, x -> x.promise(party, 0, 1, 1));
                refusedByAll("promise(0, " + party + ", 1, 1)", INDEX, x -> x.promise(0, party, 1, 1));
                refusedByAll("promise(x, x, 1, 1), x = " + party, INDEX, x -> x.promise(party, party, 1, 1));
            }
            refusedByAll("promise(value(0), 0, 1, 1)", INDEX, x -> x.promise(x.value(0), 0, 1, 1));
            refusedByAll("promise(0, value(0), 1, 1)", INDEX, x -> x.promise(0, x.value(0), 1, 1));
            due("the last party", busy().promise(4, 0, 1, 1), 8);
            due("to the last party", busy().promise(0, 4, 1, 1), 8);
        });
        holds("Throws `IllegalArgumentException` if amount or rate is out of range", () -> {
            for (int amount : new int[] {0, 1001, -1, LEAST, MOST}) {
                refusedByAll("promise(0, 1, " + amount + ", 1)", ARGUMENT, x -> x.promise(0, 1, amount, 1));
            }
            for (int rate : new int[] {0, 10, -1, LEAST, MOST}) {
                refusedByAll("promise(0, 1, 1, " + rate + ")", ARGUMENT, x -> x.promise(0, 1, 1, rate));
            }
        });
        holds("or from and to are the same", () -> {
            refusedByAll("promise(0, 0, 1, 1)", ARGUMENT, x -> x.promise(0, 0, 1, 1));
            refusedByAll("promise(n, n, 1000, 9), the last party", ARGUMENT,
                    x -> x.promise(x.value(0) - 1, x.value(0) - 1, 1000, 9));
        });
        holds("Throws `IllegalStateException` if there are 40 promises", () -> {
            refused("promise(0, 1, 1, 1) of 40", STATE, Checks::full, x -> x.promise(0, 1, 1, 1));
            refused("promise(6, 5, 1000, 9) of 40", STATE, Checks::full, x -> x.promise(6, 5, 1000, 9));
            refused("promise(0, 1, 1, 1) of 40, none open", STATE, ChangesBoundsTest::fortyClosed, x -> x.promise(0, 1, 1, 1));
            PledgeRings x = forty();
            x.undo();
            due("promise(0, 1, 1, 1) of 39", x.promise(0, 1, 1, 1), 39);
        });
    }

    private static PledgeRings fortyClosed() {
        PledgeRings x = new PledgeRings();
        for (int n = 0; n < 40; n++) {
            x.promise(0, 1, 7, 1);
            x.pay(n, 7);
        }
        return x;
    }

    private static void promise4Pay() {
        in("Promise 4");
        holds("Pays a part of a promise, or all of it", () -> {
            PledgeRings x = twoRings();
            x.pay(4, 1);
            duePromise(x, 4, 2, 0, 7, 1, 0, 8, 1, 0);
            x.pay(4, 7);
            duePromise(x, 4, 2, 0, 0, 1, 0, 8, 8, 0);
            dueValues(x, 4, 5, 4, 0, 20, 63, 1, 8, 0, 0, 6);
        });
        holds("disputed ones, too.", () -> {
            PledgeRings x = busy();
            due("pay(5, 1) of a disputed one", x.pay(5, 1), 999);
            due("pay(5, 999) of a disputed one", x.pay(5, 999), 0);
            due("it is disputed", x.promiseOf(5, 4), 1);
        });
        holds("Undoable.", () -> {
            undoable("pay(0, 1)", Checks::some, x -> x.pay(0, 1));
            undoable("pay(5, 1000), all of a disputed one", Checks::some, x -> x.pay(5, 1000));
        });
        holds("`promise`: number of a promise", () -> {
            PledgeRings x = forty();
            due("pay(0, 1)", x.pay(0, 1), 999);
            due("pay(39, 1)", x.pay(39, 1), 1000 - 17 * 39 - 1);
            due("the others", x.value(4), 40 * 1000 - 17 * 780 - 2);
        });
        holds("`amount`: 1 or more", () -> {
            due("pay(4, 1)", twoRings().pay(4, 1), 7);
            due("pay(4, 8)", twoRings().pay(4, 8), 0);
            PledgeRings x = new PledgeRings();
            x.promise(0, 1, 1000, 1);
            due("pay(0, 1000)", x.pay(0, 1000), 0);
        });
        holds("Returns its amount then.", () -> {
            PledgeRings x = twoRings();
            due("pay(4, 3)", x.pay(4, 3), 5);
            due("pay(4, 4)", x.pay(4, 4), 1);
            due("pay(4, 1)", x.pay(4, 1), 0);
        });
    }

    private static void promise4Refused() {
        holds("Throws `IndexOutOfBoundsException` if there is no such promise", () -> {
            for (int promise : new int[] {-1, 40, LEAST, MOST}) {
                refusedByAll("pay(" + promise + ", 1)", INDEX, x -> x.pay(promise, 1));
            }
            refusedByAll("pay(value(1), 1)", INDEX, x -> x.pay(x.value(1), 1));
        });
        holds("Throws `IllegalArgumentException` if amount is not positive", () -> {
            for (int amount : new int[] {0, -1, LEAST}) {
                refused("pay(7, " + amount + ")", ARGUMENT, Checks::busy, x -> x.pay(7, amount));
                refused("pay(6, " + amount + "), not open", ARGUMENT, Checks::busy, x -> x.pay(6, amount));
                refused("pay(39, " + amount + ")", ARGUMENT, Checks::full, x -> x.pay(39, amount));
            }
        });
        holds("Throws `IllegalStateException` if amount is greater than that of the promise", () -> {
            refused("pay(7, 8) of 7", STATE, Checks::busy, x -> x.pay(7, 8));
            refused("pay(5, 1001) of 1000", STATE, Checks::busy, x -> x.pay(5, 1001));
            refused("pay(1, 5) of 4, 5 at first", STATE, Checks::busy, x -> x.pay(1, 5));
            refused("pay(6, 1) of 0", STATE, Checks::busy, x -> x.pay(6, 1));
            refused("pay(7, the greatest int)", STATE, Checks::busy, x -> x.pay(7, MOST));
            due("pay(1, 4) of 4", busy().pay(1, 4), 0);
        });
    }

    private static void promise5Dispute() {
        in("Promise 5");
        holds("Disputes a promise.", () -> {
            PledgeRings x = forty();
            x.dispute(0);
            x.dispute(39);
            due("those that are disputed", x.value(3), 2);
            due("promise 0", x.promiseOf(0, 4), 1);
            due("promise 39", x.promiseOf(39, 4), 1);
            due("its amount", x.promiseOf(0, 2), 1000);
            due("the debt", x.debt(0, 1), 0);
        });
        holds("Undoable.", () -> {
            undoable("dispute(0), cutting nothing", Checks::some, x -> x.dispute(0));
            undoable("dispute(2), cutting a ring", Checks::some, x -> x.dispute(2));
        });
        holds("`promise`: number of a promise", () -> {
            due("dispute(0)", busy().dispute(0), 0);
            due("dispute(7), the last one", busy().dispute(7), 0);
        });
        holds("Returns the rings that are cut by it: by how many there are fewer then.", () -> {
            PledgeRings x = twoRings();
            due("dispute(0), not alone", x.dispute(0), 0);
            due("dispute(1), both rings", x.dispute(1), 2);
            due("dispute(2), no ring is left", x.dispute(2), 0);
            due("dispute(3) of two rings", twoRings().dispute(3), 1);
            // 326 rings go through a debt if each owes to each, 49 of them through a debt elsewhere too.
            due("dispute(0) of forty()", forty().dispute(0), 326 - 49 - 49);
        });
        holds("Throws `IndexOutOfBoundsException` if there is no such promise", () -> {
            for (int promise : new int[] {-1, 40, LEAST, MOST}) {
                refusedByAll("dispute(" + promise + ")", INDEX, x -> x.dispute(promise));
            }
            refusedByAll("dispute(value(1))", INDEX, x -> x.dispute(x.value(1)));
        });
        holds("Throws `IllegalStateException` if it is disputed", () -> {
            refused("dispute(5), disputed and open", STATE, Checks::busy, x -> x.dispute(5));
            refused("dispute(1), disputed and not open", STATE, ChangesBoundsTest::disputedAndPaid, x -> x.dispute(1));
        });
        holds("or not open", () -> {
            refused("dispute(6), paid", STATE, Checks::busy, x -> x.dispute(6));
            refused("dispute(1), released", STATE, ChangesBoundsTest::released, x -> x.dispute(1));
            PledgeRings x = busy();
            x.pay(0, 4);
            due("dispute(0) with an amount of 1", x.dispute(0), 0);
        });
    }

    private static PledgeRings disputedAndPaid() {
        PledgeRings x = twoRings();
        x.dispute(1);
        x.pay(1, 5);
        return x;
    }

    private static PledgeRings released() {
        PledgeRings x = twoRings();
        x.discharge(1, 6);
        return x;
    }

    private static void promise6Settle() {
        in("Promise 6");
        holds("Settles the dispute about a promise.", () -> {
            PledgeRings x = busy();
            x.settle(5);
            due("promise 5", x.promiseOf(5, 4), 0);
            due("the other dispute", x.promiseOf(3, 4), 1);
            due("the debt", x.debt(3, 4), 1000);
            x.dispute(5);
            due("disputed again", x.promiseOf(5, 4), 1);
        });
        holds("Undoable.", () -> {
            undoable("settle(5), no new ring", Checks::some, x -> x.settle(5));
            undoable("settle(0), a ring comes back", ChangesBoundsTest::cut, x -> x.settle(0));
        });
        holds("`promise`: number of a promise", () -> {
            PledgeRings x = forty();
            x.dispute(0);
            x.dispute(39);
            due("settle(39)", x.settle(39), 1713 - 228);
            due("settle(0)", x.settle(0), 1713);
        });
        holds("Returns the rings then.", () -> {
            due("settle(0), the only ring", cut().settle(0), 1);
            due("settle(1), not open", disputedAndPaid().settle(1), 2);
            due("settle(3), the second ring", busy().settle(3), 2);
            PledgeRings x = new PledgeRings();
            x.promise(0, 1, 1, 1);
            x.dispute(0);
            due("settle(0), no ring", x.settle(0), 0);
        });
        holds("Throws `IndexOutOfBoundsException` if there is no such promise", () -> {
            for (int promise : new int[] {-1, 40, LEAST, MOST}) {
                refusedByAll("settle(" + promise + ")", INDEX, x -> x.settle(promise));
            }
            refusedByAll("settle(value(1))", INDEX, x -> x.settle(x.value(1)));
        });
        holds("Throws `IllegalStateException` if it is not disputed", () -> {
            refused("settle(0)", STATE, Checks::busy, x -> x.settle(0));
            refused("settle(7), the last one", STATE, Checks::busy, x -> x.settle(7));
            refused("settle(6), not open", STATE, Checks::busy, x -> x.settle(6));
            refused("settle(0) of 40", STATE, Checks::full, x -> x.settle(0));
        });
    }

    private static PledgeRings cut() {
        PledgeRings x = new PledgeRings();
        carryOut(x, "p01:1,1;p10:1,1;x0;");
        return x;
    }

    private static void promise7Discharge() {
        in("Promise 7");
        holds("Discharges a ring by an amount.", () -> {
            PledgeRings x = twoRings();
            x.discharge(1, 5);
            dueValues(x, 4, 5, 4, 0, 13, 26, 2, 0, 15, 1, 2);
            duePromise(x, 0, 0, 1, 5, 2, 0, 5, 0, 0);
            duePromise(x, 1, 0, 1, 0, 7, 0, 5, 0, 5);
            duePromise(x, 3, 1, 2, 1, 1, 0, 6, 0, 5);
        });
        holds("Undoable.", () -> {
            undoable("discharge(0, 1)", Checks::some, x -> x.discharge(0, 1));
            undoable("discharge(1, 6), by the room", Checks::some, x -> x.discharge(1, 6));
        });
        holds("`ring`: number of a ring", () -> {
            due("discharge(0, 1)", twoRings().discharge(0, 1), 7 + 3);
            due("discharge(1, 1), the last one", twoRings().discharge(1, 1), 7 + 1 + 1);
            due("discharge(1712, 1), 4 5, the last one of forty()", forty().discharge(1712, 1), 2 + 8);
        });
        holds("`amount`: 1 or more", () -> {
            due("discharge(0, 1)", twoRings().discharge(0, 1), 10);
            due("discharge(0, 4), all the room", twoRings().discharge(0, 4), 40);
        });
        holds("Returns by what the cost of all promises became less.", () -> {
            PledgeRings x = twoRings();
            due("discharge(1, 6)", x.discharge(1, 6), 49);
            due("the cost", x.value(5), 71 - 49);
            due("discharge(0, 1)", x.discharge(0, 1), 5);
            due("the cost", x.value(5), 71 - 49 - 5);
        });
    }

    private static void promise7Refused() {
        holds("Throws `IndexOutOfBoundsException` if there is no such ring", () -> {
            for (int ring : new int[] {-1, 2365, LEAST, MOST}) {
                refusedByAll("discharge(" + ring + ", 1)", INDEX, x -> x.discharge(ring, 1));
            }
            refusedByAll("discharge(value(6), 1)", INDEX, x -> x.discharge(x.value(6), 1));
        });
        holds("Throws `IllegalArgumentException` if amount is not positive", () -> {
            for (int amount : new int[] {0, -1, LEAST}) {
                refused("discharge(0, " + amount + ")", ARGUMENT, Checks::busy, x -> x.discharge(0, amount));
                refused("discharge(9, " + amount + ")", ARGUMENT, Checks::full, x -> x.discharge(9, amount));
            }
        });
        holds("Throws `IllegalStateException` if amount is greater than the room of the ring", () -> {
            refused("discharge(0, 4) of 3", STATE, Checks::busy, x -> x.discharge(0, 4));
            refused("discharge(1, 7) of 6", STATE, Checks::some, x -> x.discharge(1, 7));
            refused("discharge(0, the greatest int)", STATE, Checks::busy, x -> x.discharge(0, MOST));
            refused("discharge(0, one more than the room)", STATE, Checks::full, x -> x.discharge(0, x.room(0) + 1));
            due("discharge(0, 3) of 3", busy().discharge(0, 3), 3 * 7 + 3 * 3);
        });
    }

    private static void promise8DischargeBest() {
        in("Promise 8");
        holds("Discharges the best ring by its room.", () -> {
            PledgeRings x = twoRings();
            x.dischargeBest();
            dueValues(x, 4, 5, 3, 0, 10, 22, 1, 0, 18, 1, 2);
            dueRing(x, 0, 0, 1);
        });
        holds("Undoable.", () -> {
            undoable("dischargeBest()", Checks::some, PledgeRings::dischargeBest);
        });
        holds("Returns its saving.", () -> {
            PledgeRings x = twoRings();
            due("dischargeBest()", x.dischargeBest(), 49);
            due("dischargeBest(), the last ring", x.dischargeBest(), 20);
        });
        holds("Throws `IllegalStateException` if there is no ring", () -> {
            refused("dischargeBest() of a new object", STATE, PledgeRings::new, PledgeRings::dischargeBest);
            refused("dischargeBest() behind all", STATE, ChangesBoundsTest::allDischarged, PledgeRings::dischargeBest);
            refused("dischargeBest() of a cut ring", STATE, ChangesBoundsTest::cut, PledgeRings::dischargeBest);
        });
    }

    private static PledgeRings allDischarged() {
        PledgeRings x = busy();
        x.settle(3);
        x.dischargeAll();
        return x;
    }

    private static void promise9DischargeAll() {
        in("Promise 9");
        holds("Discharges all.", () -> {
            PledgeRings x = twoRings();
            x.dischargeAll();
            dueValues(x, 4, 5, 1, 0, 2, 2, 0, 0, 26, 2, 2);
            PledgeRings y = forty();
            int discharges = y.dischargeAll();
            due("the rings of 40 promises then", y.value(6), 0);
            due("their discharges", y.value(9), discharges);
        });
        holds("Undoable.", () -> {
            undoable("dischargeAll(), two rings", Checks::some, PledgeRings::dischargeAll);
            undoable("dischargeAll() without a ring", ChangesBoundsTest::cut, PledgeRings::dischargeAll);
            undoable("dischargeAll() of a new object", PledgeRings::new, PledgeRings::dischargeAll);
        });
        holds("Returns the rings that were discharged.", () -> {
            due("no ring", new PledgeRings().dischargeAll(), 0);
            due("a cut ring", cut().dischargeAll(), 0);
            due("one ring", busy().dischargeAll(), 1);
            due("two rings", some().dischargeAll(), 2);
        });
    }
}
