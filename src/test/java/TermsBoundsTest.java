/** The boundaries that "Terms" names for parties, promises, debts, rings and the constant. */
public final class TermsBoundsTest extends Sentences {
    public static void main(String[] args) {
        whatItIs();
        parties();
        promises();
        debts();
        rings();
        ringNumbers();
        savings();
        theConstant();
        closeSentences("TermsBoundsTest");
    }

    /** Parties that owe 1 to the next one each, at rate 1, and the last one to the first one. */
    private static PledgeRings around(int... round) {
        PledgeRings x = begun(7);
        for (int k = 0; k < round.length; k++) {
            x.promise(round[k], round[(k + 1) % round.length], 1, 1);
        }
        return x;
    }

    /** Three parties, each of which owes 1 to each other one, at rate 1: promises 0 to 5, rings 0 to 4. */
    private static PledgeRings three() {
        PledgeRings x = begun(3);
        carryOut(x, "p01:1,1;p02:1,1;p10:1,1;p12:1,1;p20:1,1;p21:1,1;");
        return x;
    }

    private static void whatItIs() {
        in("What it is");
        holds("Promises of payment between parties that are discharged around rings", () -> {
            PledgeRings x = new PledgeRings();
            x.promise(0, 1, 1, 1);
            due("the rings of one promise", x.value(6), 0);
            x.promise(1, 0, 1, 1);
            due("the rings of two", x.value(6), 1);
            due("discharge(0, 1)", x.discharge(0, 1), 2);
            due("the sum of the amounts", x.value(4), 0);
        });
        holds("An object is used for at most 512 calls after it has been made", () -> {
            PledgeRings x = forty();
            for (int n = 0; n < 234; n++) {
                x.dispute(0);
                x.settle(0);
            }
            due("call 510, pay(0, 1)", x.pay(0, 1), 999);
            due("call 511, value(7)", x.value(7), 1);
            PledgeRings y = forty();
            y.pay(0, 1);
            due("call 512, digest()", x.digest(), y.digest());
        });
    }

    private static void parties() {
        in("Terms, Parties.");
        holds("There are 2 to 7 parties", () -> {
            due("the parties behind begin(2)", begun(2).value(0), 2);
            due("net(1) of two", begun(2).net(1), 0);
            refused("net(2) of two", INDEX, () -> begun(2), x -> x.net(2));
            due("the parties behind begin(7)", begun(7).value(0), 7);
            due("net(6) of seven", begun(7).net(6), 0);
            refused("net(7) of seven", INDEX, () -> begun(7), x -> x.net(7));
            refusedByAll("begin(1)", ARGUMENT, x -> x.begin(1));
            refusedByAll("begin(8)", ARGUMENT, x -> x.begin(8));
        });
        holds("initially 4", () -> {
            due("the parties of a new object", new PledgeRings().value(0), 4);
            due("net(3) of a new object", new PledgeRings().net(3), 0);
            refused("net(4)", INDEX, PledgeRings::new, x -> x.net(4));
        });
        holds("numbered from 0.", () -> {
            due("net(0)", twoRings().net(0), 2);
            due("debt(0, 1)", twoRings().debt(0, 1), 10);
            refusedByAll("net(-1)", INDEX, x -> x.net(-1));
        });
    }

    private static void promises() {
        in("Terms, Promises.");
        holds("There are at most 40", () -> {
            PledgeRings x = forty();
            due("the promises", x.value(1), 40);
            refused("a promise behind 40", STATE, Checks::full, y -> y.promise(0, 1, 1, 1));
            due("an ordered promise behind 40", carryOut(x, "p01:1,1;"), 0);
            x.undo();
            x.undo();
            due("the promises behind undo()", x.value(1), 39);
            due("ordered promises behind 39", carryOut(x, "p65:1,1;p65:1,1;"), 1);
            due("the promises", x.value(1), 40);
        });
        holds("numbered from 0 in the order in which they are made.", () -> {
            PledgeRings x = new PledgeRings();
            for (int n = 0; n < 40; n++) {
                due("the number of a promise", x.promise(n % 4, (n + 1) % 4, n + 1, 1), n);
            }
            duePromise(x, 0, 0, 1, 1);
            duePromise(x, 39, 3, 0, 40);
            x.undo();
            due("the number of the last one, made again", x.promise(2, 1, 7, 1), 39);
            duePromise(x, 39, 2, 1, 7);
            x.begin(4);
            due("the first number behind begin(4)", x.promise(3, 2, 1, 1), 0);
        });
        holds("A promise is owed by one party to another one", () -> {
            due("promise(0, 1, 1, 1)", new PledgeRings().promise(0, 1, 1, 1), 0);
            due("promise(3, 2, 1, 1)", new PledgeRings().promise(3, 2, 1, 1), 0);
            refusedByAll("promise(0, 0, 1, 1)", ARGUMENT, x -> x.promise(0, 0, 1, 1));
            refusedByAll("promise(3, 3, 1, 1)", ARGUMENT, x -> x.promise(3, 3, 1, 1));
        });
        holds("it has an amount, 1 to 1000 at first", () -> {
            PledgeRings x = new PledgeRings();
            x.promise(0, 1, 1, 1);
            x.promise(0, 1, 1000, 1);
            due("the least amount", x.promiseOf(0, 2), 1);
            due("the greatest amount", x.promiseOf(1, 2), 1000);
            x.pay(1, 1000);
            due("the amount at first", x.promiseOf(1, 5), 1000);
            refusedByAll("promise(0, 1, 0, 1)", ARGUMENT, y -> y.promise(0, 1, 0, 1));
            refusedByAll("promise(0, 1, 1001, 1)", ARGUMENT, y -> y.promise(0, 1, 1001, 1));
        });
        holds("a rate, 1 to 9.", () -> {
            PledgeRings x = new PledgeRings();
            x.promise(0, 1, 1, 1);
            x.promise(0, 1, 1, 9);
            due("the least rate", x.promiseOf(0, 3), 1);
            due("the greatest rate", x.promiseOf(1, 3), 9);
            refusedByAll("promise(0, 1, 1, 0)", ARGUMENT, y -> y.promise(0, 1, 1, 0));
            refusedByAll("promise(0, 1, 1, 10)", ARGUMENT, y -> y.promise(0, 1, 1, 10));
        });
        promisesOnTheirWay();
    }

    private static void promisesOnTheirWay() {
        holds("Its amount becomes less by payments and releases, down to 0", () -> {
            PledgeRings x = around(0, 1);
            due("pay(0, 1) of 1", x.pay(0, 1), 0);
            refused("pay(0, 1) of 0", STATE, () -> paidOff(), y -> y.pay(0, 1));
            PledgeRings z = around(0, 1);
            z.discharge(0, 1);
            duePromise(z, 0, 0, 1, 0, 1, 0, 1, 0, 1);
            duePromise(z, 1, 1, 0, 0, 1, 0, 1, 0, 1);
            due("the promises stay", z.value(1), 2);
        });
        holds("it is open as long as its amount is above 0.", () -> {
            PledgeRings x = new PledgeRings();
            x.promise(0, 1, 2, 1);
            x.pay(0, 1);
            due("open ones, with an amount of 1", x.value(2), 1);
            x.pay(0, 1);
            due("open ones, with an amount of 0", x.value(2), 0);
            PledgeRings y = around(0, 1, 2);
            y.dispute(0);
            due("open ones, one of them disputed", y.value(2), 3);
            y.settle(0);
            y.dischargeBest();
            due("open ones behind a release of all", y.value(2), 0);
        });
        holds("It can be disputed.", () -> {
            PledgeRings x = around(0, 1);
            due("at first", x.promiseOf(0, 4), 0);
            x.dispute(0);
            due("disputed", x.promiseOf(0, 4), 1);
            due("the other one", x.promiseOf(1, 4), 0);
            x.pay(0, 1);
            due("disputed and not open", x.promiseOf(0, 4), 1);
        });
        holds("The cost of a promise is its amount times its rate.", () -> {
            PledgeRings x = new PledgeRings();
            x.promise(0, 1, 1, 1);
            due("the least cost of one", x.value(5), 1);
            x.pay(0, 1);
            due("the cost of an amount of 0", x.value(5), 0);
            for (int n = 1; n < 40; n++) {
                x.promise(0, 1, 1000, 9);
            }
            due("39 times 9000", x.value(5), 351000);
        });
        holds("the sum of the amounts of all promises owed to it, minus the sum of those that it owes", () -> {
            dueNets(new PledgeRings(), 0, 0, 0, 0);
            PledgeRings x = begun(2);
            for (int n = 0; n < 40; n++) {
                x.promise(0, 1, 1000, 1);
            }
            dueNets(x, -40000, 40000);
            dueNets(around(0, 1), 0, 0, 0, 0, 0, 0, 0);
        });
        holds("(disputed ones, too)", () -> {
            PledgeRings x = around(0, 6);
            x.pay(1, 1);
            x.dispute(0);
            dueNets(x, -1, 0, 0, 0, 0, 0, 1);
        });
    }

    private static PledgeRings paidOff() {
        PledgeRings x = around(0, 1);
        x.pay(0, 1);
        return x;
    }

    private static void debts() {
        in("Terms, Debts.");
        holds("the sum of the amounts of all promises that a owes to b", () -> {
            due("no debt", begun(7).debt(0, 6), 0);
            PledgeRings x = begun(7);
            for (int n = 0; n < 40; n++) {
                x.promise(6, 0, 1000, 9);
            }
            due("the greatest debt", x.debt(6, 0), 40000);
            due("the debt the other way", x.debt(0, 6), 0);
            due("the debt to another one", x.debt(6, 1), 0);
            due("the debt of another one", x.debt(5, 0), 0);
        });
        holds("and that are not disputed.", () -> {
            PledgeRings x = twoRings();
            x.dispute(0);
            due("one of two disputed", x.debt(0, 1), 5);
            x.dispute(1);
            due("both disputed", x.debt(0, 1), 0);
        });
        holds("the promise with the greatest rate of these", () -> {
            PledgeRings x = fourOfOneDebt(1, 8, 9, 2);
            x.discharge(0, 1);
            dueAmounts(x, 10, 10, 9, 10);
        });
        holds("the promise with the greatest rate of these", () -> {
            PledgeRings x = fourOfOneDebt(8, 9, 9, 9);
            x.dispute(1);
            x.pay(2, 10);
            x.discharge(0, 11);
            dueAmounts(x, 9, 10, 0, 0);
        });
        holds("of several the one with the lowest number", () -> {
            PledgeRings x = fourOfOneDebt(1, 5, 5, 5);
            x.discharge(0, 1);
            dueAmounts(x, 10, 9, 10, 10);
        });
        releasesInTurn();
    }

    private static void releasesInTurn() {
        holds("is made less by it as far as possible", () -> {
            PledgeRings x = fourOfOneDebt(2, 5, 3, 5);
            x.discharge(0, 10);
            dueAmounts(x, 10, 0, 10, 10);
        });
        holds("then the next one by the same rule, and so on.", () -> {
            int[][] want = {{10, 0, 10, 9}, {10, 0, 10, 0}, {10, 0, 9, 0}, {10, 0, 0, 0}, {9, 0, 0, 0}, {0, 0, 0, 0}};
            int[] released = {11, 20, 21, 30, 31, 40};
            for (int k = 0; k < released.length; k++) {
                PledgeRings x = fourOfOneDebt(2, 5, 3, 5);
                x.discharge(0, released[k]);
                dueAmounts(x, want[k]);
            }
        });
        holds("then the next one by the same rule, and so on.", () -> {
            PledgeRings x = begun(2);
            x.promise(1, 0, 1000, 1);
            for (int n = 0; n < 39; n++) {
                x.promise(0, 1, 1, 1 + n % 9);
            }
            due("a release from 39 promises", x.discharge(0, 39), 39 + 186);
            due("those that are open", x.value(2), 1);
        });
    }

    /** Promises 0 to 3, of 10 each, are what 0 owes to 1; promise 4, of 40, is what 1 owes to 0. */
    private static PledgeRings fourOfOneDebt(int... rates) {
        PledgeRings x = new PledgeRings();
        for (int rate : rates) {
            x.promise(0, 1, 10, rate);
        }
        x.promise(1, 0, 40, 1);
        return x;
    }

    private static void dueAmounts(PledgeRings x, int... want) {
        for (int i = 0; i < want.length; i++) {
            due("the amount of promise " + i, x.promiseOf(i, 2), want[i]);
        }
    }

    private static void rings() {
        in("Terms, Rings.");
        holds("A ring is a row of 2 to 7 different parties", () -> {
            due("a promise alone is no ring", around(0, 1).ringsWithout(0), 0);
            PledgeRings two = around(5, 6);
            due("a ring of two", two.value(6), 1);
            dueRing(two, 0, 5, 6);
            PledgeRings seven = around(0, 1, 2, 3, 4, 5, 6);
            due("a ring of seven", seven.value(6), 1);
            dueRing(seven, 0, 0, 1, 2, 3, 4, 5, 6);
        });
        holds("different parties", () -> {
            PledgeRings x = around(0, 1);
            x.promise(1, 2, 1, 1);
            x.promise(2, 1, 1, 1);
            due("0 1 2 1 is no ring", x.value(6), 2);
            dueRing(x, 0, 0, 1);
            dueRing(x, 1, 1, 2);
            due("no party is twice in one of the most rings", twiceIn(mostRings()), 0);
        });
        holds("the first of which has the lowest number of them", () -> {
            dueRing(around(3, 1, 2), 0, 1, 2, 3);
            dueRing(around(6, 5, 4, 3, 2, 1, 0), 0, 0, 6, 5, 4, 3, 2, 1);
            due("it is one ring, however it is told", around(6, 0).value(6), 1);
        });
        holds("each one has a debt above 0 to the next one, and the last one to the first one.", () -> {
            for (int i = 0; i < 7; i++) {
                PledgeRings x = around(6, 0, 5, 1, 4, 2, 3);
                due("the rings with debts of 1", x.value(6), 1);
                x.pay(i, 1);
                due("the rings with a debt of 0, promise " + i, x.value(6), 0);
                x.undo();
                x.dispute(i);
                due("the rings with a disputed debt, promise " + i, x.value(6), 0);
                x.undo();
                due("the rings again", x.value(6), 1);
            }
        });
        rooms();
    }

    private static void rooms() {
        holds("The room of a ring is the least one of these debts.", () -> {
            for (int i = 0; i < 7; i++) {
                PledgeRings x = begun(7);
                for (int party = 0; party < 7; party++) {
                    x.promise(party, (party + 1) % 7, party == i ? 3 : 4, 1);
                }
                due("room(0) with the least one at place " + i, x.room(0), 3);
            }
            due("room(0) of equal ones", around(0, 1, 2).room(0), 1);
        });
        holds("To discharge a ring by an amount, at most its room", () -> {
            due("discharge by the least", twoRings().discharge(0, 1), 10);
            due("discharge by the room", twoRings().discharge(0, 4), 40);
            refused("discharge by one more", STATE, Checks::twoRings, x -> x.discharge(0, 5));
            refused("discharge by nothing", ARGUMENT, Checks::twoRings, x -> x.discharge(0, 0));
        });
        holds("means to release this amount from each of these debts.", () -> {
            PledgeRings x = twoRings();
            x.discharge(1, 6);
            int[][] debts = {{0, 4, 0, 0}, {4, 0, 0, 0}, {2, 0, 0, 0}, {0, 0, 0, 0}};
            for (int from = 0; from < 4; from++) {
                for (int to = 0; to < 4; to++) {
                    due("debt(" + from + ", " + to + ")", x.debt(from, to), debts[from][to]);
                }
            }
        });
    }

    /** The most rings that 40 promises can make: each owes to each, but 0 to 1 and 1 to 2. */
    private static PledgeRings mostRings() {
        PledgeRings x = begun(7);
        for (int from = 0; from < 7; from++) {
            for (int to = 0; to < 7; to++) {
                boolean isLeftOut = from == 0 && to == 1 || from == 1 && to == 2;
                if (from != to && !isLeftOut) {
                    x.promise(from, to, 1, 1);
                }
            }
        }
        return x;
    }

    /** Looks at the last 60 rings, as an object answers 512 calls. */
    private static int twiceIn(PledgeRings x) {
        int rings = x.value(6);
        int twice = 0;
        for (int ring = Math.max(0, rings - 60); ring < rings; ring++) {
            int seen = 0;
            for (int place = 0; place < 7; place++) {
                int party = x.ring(ring, place);
                if (party != NONE) {
                    twice += seen >> party & 1;
                    seen |= 1 << party;
                }
            }
        }
        return twice;
    }

    private static void ringNumbers() {
        holds("Rings are numbered from 0 in the order of their rows", () -> {
            PledgeRings x = three();
            due("the rings", x.value(6), 5);
            dueRing(x, 0, 0, 1);
            dueRing(x, 4, 1, 2);
            refused("ring(5, 0)", INDEX, TermsBoundsTest::three, y -> y.ring(5, 0));
            // 2365 rings if each owed to each, 326 through each debt that is left out, 65 through both.
            due("the most rings that there can be", mostRings().value(6), 2365 - 326 - 326 + 65);
            dueRing(mostRings(), 1777, 5, 6);
            refused("room(1778)", INDEX, TermsBoundsTest::mostRings, y -> y.room(1778));
        });
        holds("parties compared from the first place on, the lower number first", () -> {
            dueRing(three(), 1, 0, 1, 2);
            dueRing(three(), 2, 0, 2);
            dueRing(three(), 3, 0, 2, 1);
            dueRing(three(), 4, 1, 2);
        });
        holds("a row that is the beginning of another one comes first.", () -> {
            dueRing(three(), 0, 0, 1);
            dueRing(three(), 1, 0, 1, 2);
            PledgeRings x = around(0, 1, 2, 3, 4, 5, 6);
            for (int party = 6; party > 0; party--) {
                x.promise(party, 0, 1, 1);
            }
            dueRing(x, 0, 0, 1);
            dueRing(x, 1, 0, 1, 2);
            dueRing(x, 4, 0, 1, 2, 3, 4, 5);
            dueRing(x, 5, 0, 1, 2, 3, 4, 5, 6);
            due("the rings", x.value(6), 6);
        });
        holds("The numbers are those of the rings that there are at the moment.", () -> {
            PledgeRings x = three();
            x.dispute(0);
            dueRing(x, 0, 0, 2);
            due("the rings without 0 1 and 0 1 2", x.value(6), 3);
            x.settle(0);
            dueRing(x, 0, 0, 1);
            x.dischargeBest();
            dueRing(x, 0, 0, 2, 1);
            x.dischargeBest();
            due("no ring is left", x.value(6), 0);
            refused("ring(0, 0) behind the last ring", INDEX, TermsBoundsTest::discharged, y -> y.ring(0, 0));
        });
    }

    private static PledgeRings discharged() {
        PledgeRings x = three();
        x.dischargeAll();
        return x;
    }

    private static void savings() {
        holds("The saving of a ring is by what the cost of all promises becomes less", () -> {
            due("the least saving", around(0, 1).saving(0), 2);
            PledgeRings x = begun(2);
            for (int n = 0; n < 40; n++) {
                x.promise(n % 2, 1 - n % 2, 1000, 9);
            }
            due("the greatest saving", x.saving(0), 360000);
            due("the cost by it", x.value(5) - x.dischargeBest(), 0);
            due("the cost then", x.value(5), 0);
        });
        holds("when it is discharged by its room.", () -> {
            for (int ring = 0; ring < 2; ring++) {
                PledgeRings x = twoRings();
                int saving = x.saving(ring);
                due("the discharge of ring " + ring, x.discharge(ring, x.room(ring)), saving);
                due("the cost then", x.value(5), 71 - saving);
            }
        });
        holds("The best ring is the one with the greatest saving", () -> {
            PledgeRings x = around(0, 1);
            x.promise(2, 3, 1, 1);
            x.promise(3, 2, 1, 2);
            due("the last ring saves 1 more", x.bestRing(), 1);
            x.promise(0, 1, 1, 3);
            due("the first ring saves 1 more", x.bestRing(), 0);
        });
        holds("of several the one with the lowest number.", () -> {
            due("rings 1 and 3 save as much", three().bestRing(), 1);
            PledgeRings x = three();
            x.dischargeBest();
            dueRing(x, x.bestRing(), 0, 2, 1);
            PledgeRings y = around(0, 1);
            y.promise(5, 6, 1, 1);
            y.promise(6, 5, 1, 1);
            due("the first and the last save as much", y.bestRing(), 0);
        });
        holds("as long as there is a ring, the best ring is discharged by its room.", () -> {
            due("no ring", new PledgeRings().dischargeAll(), 0);
            due("one ring", around(0, 1).dischargeAll(), 1);
            due("rings 0 1 2 and 0 2 1 of five", three().dischargeAll(), 2);
            due("no ring is left", discharged().value(6), 0);
            due("the sum that is left", discharged().value(4), 0);
        });
    }

    private static void theConstant() {
        in("Terms, The constants:");
        holds("`NONE = -1`: There is no such thing.", () -> {
            due("NONE", PledgeRings.NONE, -1);
            due("bestRing() without a ring", new PledgeRings().bestRing(), -1);
            due("keyPromise() without a promise", new PledgeRings().keyPromise(), -1);
            due("a third place of a ring of two", around(0, 1).ring(0, 2), -1);
        });
    }
}
