import java.util.function.LongSupplier;

/** Facts worked out by hand, for each promise of the document: the ordinary, the edges and wrong inputs. */
public final class PromisesTest extends Checks {
    public static void main(String[] args) {
        promise1New();
        promise2Begin();
        promise3Promise();
        promise4Pay();
        promise5Dispute();
        promise6Settle();
        promise7Discharge();
        promise8DischargeBest();
        promise9DischargeAll();
        promise10PromiseOf();
        promise11Debt();
        promise12Net();
        promise13Ring();
        promise14Room();
        promise15Value();
        promise16Saving();
        promise17BestRing();
        promise18CostByRings();
        promise19LeastCost();
        promise20RingsWithout();
        promise21KeyPromise();
        promise22Mutual();
        promise23Append();
        promise24ClearText();
        promise25CarryOut();
        promise26Undo();
        promise27Digest();
        close("PromisesTest");
    }

    /** Looks by the digest that the call changed nothing; the tests of the boundaries look at everything. */
    private static void refuses(String call, PledgeRings x, Class<?> want, LongSupplier asked) {
        long before = x.digest();
        due(call, answer(asked), want.getName());
        due("digest behind " + call, x.digest(), before);
    }

    private static void promise1New() {
        PledgeRings x = new PledgeRings();
        dueValues(x, 4, 0, 0, 0, 0, 0, 0, 0, 0, 0, 0);
        due("NONE", NONE, -1);
        due("debt(3, 3) of a new object", x.debt(3, 3), 0);
        refuses("net(4) of a new object", x, INDEX, () -> x.net(4));
        refuses("undo() of a new object", x, STATE, x::undo);
        due("clearText() of a new object", x.clearText(), 0);
    }

    private static void promise2Begin() {
        PledgeRings x = twoRings();
        x.pay(4, 1);
        x.discharge(0, 1);
        x.dispute(3);
        refuses("begin(1)", x, ARGUMENT, () -> x.begin(1));
        refuses("begin(8)", x, ARGUMENT, () -> x.begin(8));
        refuses("begin(-2147483648)", x, ARGUMENT, () -> x.begin(Integer.MIN_VALUE));
        due("begin(7)", x.begin(7), 5);
        dueValues(x, 7, 0, 0, 0, 0, 0, 0, 0, 0, 0, 0);
        due("debt(5, 6)", x.debt(5, 6), 0);
        refuses("promiseOf(0, 0) behind begin", x, INDEX, () -> x.promiseOf(0, 0));
        due("promise(6, 5, 1, 1)", x.promise(6, 5, 1, 1), 0);
        duePromise(x, 0, 6, 5, 1, 1, 0, 1, 0, 0);
        due("begin(2)", x.begin(2), 1);
        refuses("net(2) with 2 parties", x, INDEX, () -> x.net(2));
        due("undo() of begin(2)", x.undo(), 3);
        due("the promises behind undo of begin", x.value(1), 1);
        x.undo();
        due("undo() of begin(7)", x.undo(), 1);
        dueValues(x, 4, 5, 5, 1, 25, 60, 1, 1, 2, 1, 1);
    }

    private static void promise3Promise() {
        PledgeRings x = new PledgeRings();
        due("promise(0, 1, 1, 1)", x.promise(0, 1, 1, 1), 0);
        due("promise(3, 0, 1000, 9)", x.promise(3, 0, 1000, 9), 1);
        duePromise(x, 1, 3, 0, 1000, 9, 0, 1000, 0, 0);
        refuses("promise(-1, 0, 1, 1)", x, INDEX, () -> x.promise(-1, 0, 1, 1));
        refuses("promise(0, 4, 1, 1)", x, INDEX, () -> x.promise(0, 4, 1, 1));
        refuses("promise(4, 4, 0, 0)", x, INDEX, () -> x.promise(4, 4, 0, 0));
        refuses("promise(0, 1, 0, 1)", x, ARGUMENT, () -> x.promise(0, 1, 0, 1));
        refuses("promise(0, 1, 1001, 1)", x, ARGUMENT, () -> x.promise(0, 1, 1001, 1));
        refuses("promise(0, 1, 1, 0)", x, ARGUMENT, () -> x.promise(0, 1, 1, 0));
        refuses("promise(0, 1, 1, 10)", x, ARGUMENT, () -> x.promise(0, 1, 1, 10));
        refuses("promise(2, 2, 1, 1)", x, ARGUMENT, () -> x.promise(2, 2, 1, 1));
        for (int n = 2; n < 40; n++) {
            due("promise number " + n, x.promise(1, 2, n, 1), n);
        }
        refuses("promise behind 40", x, STATE, () -> x.promise(0, 1, 1, 1));
        refuses("promise(2, 2, 1, 1) behind 40", x, ARGUMENT, () -> x.promise(2, 2, 1, 1));
        refuses("promise(0, 7, 1, 1) behind 40", x, INDEX, () -> x.promise(0, 7, 1, 1));
        due("undo() behind 40 promises", x.undo(), 3);
        due("promise in the free place", x.promise(2, 1, 3, 3), 39);
    }

    private static void promise4Pay() {
        PledgeRings x = twoRings();
        due("pay(0, 2)", x.pay(0, 2), 3);
        duePromise(x, 0, 0, 1, 3, 2, 0, 5, 2, 0);
        x.dispute(0);
        due("pay(0, 1) of a disputed one", x.pay(0, 1), 2);
        refuses("pay(0, 3)", x, STATE, () -> x.pay(0, 3));
        refuses("pay(0, 2147483647)", x, STATE, () -> x.pay(0, Integer.MAX_VALUE));
        refuses("pay(0, 0)", x, ARGUMENT, () -> x.pay(0, 0));
        refuses("pay(0, -1)", x, ARGUMENT, () -> x.pay(0, -1));
        refuses("pay(5, 0)", x, INDEX, () -> x.pay(5, 0));
        refuses("pay(-1, 1)", x, INDEX, () -> x.pay(-1, 1));
        due("pay(0, 2)", x.pay(0, 2), 0);
        due("the payments", x.value(7), 5);
        duePromise(x, 0, 0, 1, 0, 2, 1, 5, 5, 0);
        refuses("pay(0, 1) of one that is not open", x, STATE, () -> x.pay(0, 1));
        x.undo();
        due("the payments behind undo", x.value(7), 3);
    }

    private static void promise5Dispute() {
        PledgeRings x = twoRings();
        due("dispute(0)", x.dispute(0), 0);
        due("dispute(1)", x.dispute(1), 2);
        due("the rings", x.value(6), 0);
        due("the debt", x.debt(0, 1), 0);
        refuses("dispute(1) again", x, STATE, () -> x.dispute(1));
        refuses("dispute(5)", x, INDEX, () -> x.dispute(5));
        refuses("dispute(-1)", x, INDEX, () -> x.dispute(-1));
        x.pay(2, 4);
        refuses("dispute(2), not open", x, STATE, () -> x.dispute(2));
        x.undo();
        due("undo() of dispute(1)", x.undo(), 2);
        due("the rings behind undo", x.value(6), 2);
        due("dispute(3)", x.dispute(3), 1);
    }

    private static void promise6Settle() {
        PledgeRings x = twoRings();
        x.dispute(2);
        x.dispute(4);
        due("settle(4)", x.settle(4), 1);
        refuses("settle(4) again", x, STATE, () -> x.settle(4));
        refuses("settle(5)", x, INDEX, () -> x.settle(5));
        refuses("settle(-1)", x, INDEX, () -> x.settle(-1));
        due("settle(2)", x.settle(2), 2);
        due("undo() of settle(2)", x.undo(), 3);
        due("it is disputed again", x.promiseOf(2, 4), 1);
        x.pay(2, 4);
        due("settle(2), not open", x.settle(2), 1);
        due("those that are disputed", x.value(3), 0);
    }

    private static void promise7Discharge() {
        PledgeRings x = twoRings();
        refuses("discharge(2, 1)", x, INDEX, () -> x.discharge(2, 1));
        refuses("discharge(-1, 0)", x, INDEX, () -> x.discharge(-1, 0));
        refuses("discharge(0, 0)", x, ARGUMENT, () -> x.discharge(0, 0));
        refuses("discharge(0, -1)", x, ARGUMENT, () -> x.discharge(0, -1));
        refuses("discharge(0, 5)", x, STATE, () -> x.discharge(0, 5));
        due("discharge(1, 6)", x.discharge(1, 6), 5 * 7 + 2 + 6 + 6);
        duePromise(x, 0, 0, 1, 4, 2, 0, 5, 0, 1);
        duePromise(x, 1, 0, 1, 0, 7, 0, 5, 0, 5);
        duePromise(x, 4, 2, 0, 2, 1, 0, 8, 0, 6);
        due("the discharges", x.value(9), 1);
        due("all that was released", x.value(8), 18);
        due("the rings then", x.value(6), 1);
        due("discharge(0, 1)", x.discharge(0, 1), 5);
        x.undo();
        x.undo();
        due("the discharges behind undo", x.value(9), 0);
        due("all that was released, behind undo", x.value(8), 0);

        PledgeRings y = new PledgeRings();
        y.promise(0, 1, 3, 4);
        y.promise(0, 1, 3, 4);
        y.promise(1, 0, 9, 1);
        y.dispute(0);
        refuses("discharge by a disputed part", y, STATE, () -> y.discharge(0, 4));
        y.settle(0);
        y.discharge(0, 4);
        due("the lower number is released first", y.promiseOf(0, 2), 0);
        due("then the next one", y.promiseOf(1, 2), 2);
    }

    private static void promise8DischargeBest() {
        PledgeRings x = twoRings();
        due("dischargeBest()", x.dischargeBest(), 49);
        due("dischargeBest() again", x.dischargeBest(), 20);
        due("the discharges", x.value(9), 2);
        refuses("dischargeBest() without a ring", x, STATE, x::dischargeBest);
        due("undo() of it", x.undo(), 3);
        due("the rings", x.value(6), 1);
    }

    private static void promise9DischargeAll() {
        PledgeRings x = twoRings();
        due("dischargeAll()", x.dischargeAll(), 2);
        due("the discharges", x.value(9), 2);
        due("the rings", x.value(6), 0);
        due("dischargeAll() without a ring", x.dischargeAll(), 0);
        due("undo() of nothing", x.undo(), 3);
        due("undo() of all at once", x.undo(), 2);
        due("the rings behind undo", x.value(6), 2);
    }

    private static void promise10PromiseOf() {
        PledgeRings x = twoRings();
        x.pay(1, 1);
        x.discharge(0, 2);
        x.dispute(1);
        duePromise(x, 1, 0, 1, 2, 7, 1, 5, 1, 2);
        refuses("promiseOf(1, 8)", x, ARGUMENT, () -> x.promiseOf(1, 8));
        refuses("promiseOf(1, -1)", x, ARGUMENT, () -> x.promiseOf(1, -1));
        refuses("promiseOf(5, 8)", x, INDEX, () -> x.promiseOf(5, 8));
        refuses("promiseOf(-1, 0)", x, INDEX, () -> x.promiseOf(-1, 0));
    }

    private static void promise11Debt() {
        PledgeRings x = twoRings();
        due("debt(0, 1)", x.debt(0, 1), 10);
        due("debt(1, 0)", x.debt(1, 0), 4);
        due("debt(3, 0)", x.debt(3, 0), 0);
        due("debt(1, 1)", x.debt(1, 1), 0);
        x.dispute(0);
        due("debt(0, 1) without the disputed one", x.debt(0, 1), 5);
        refuses("debt(4, 0)", x, INDEX, () -> x.debt(4, 0));
        refuses("debt(0, -1)", x, INDEX, () -> x.debt(0, -1));
        refuses("debt(4, 4)", x, INDEX, () -> x.debt(4, 4));
    }

    private static void promise12Net() {
        PledgeRings x = twoRings();
        x.dispute(0);
        dueNets(x, 2, 0, -2, 0);
        x.dischargeAll();
        dueNets(x, 2, 0, -2, 0);
        x.pay(0, 3);
        due("net(0) behind a payment", x.net(0), 5);
        due("net(1) behind a payment", x.net(1), -3);
        refuses("net(4)", x, INDEX, () -> x.net(4));
        refuses("net(-1)", x, INDEX, () -> x.net(-1));
    }

    /** Each owes to each other one: with 4 parties there are 6 + 8 + 6 rings. */
    private static PledgeRings eachToEach() {
        PledgeRings x = new PledgeRings();
        for (int from = 0; from < 4; from++) {
            for (int to = 0; to < 4; to++) {
                if (from != to) {
                    x.promise(from, to, 1, 1);
                }
            }
        }
        return x;
    }

    private static void promise13Ring() {
        PledgeRings x = eachToEach();
        int[][] rows = {
            {0, 1}, {0, 1, 2}, {0, 1, 2, 3}, {0, 1, 3}, {0, 1, 3, 2},
            {0, 2}, {0, 2, 1}, {0, 2, 1, 3}, {0, 2, 3}, {0, 2, 3, 1},
            {0, 3}, {0, 3, 1}, {0, 3, 1, 2}, {0, 3, 2}, {0, 3, 2, 1},
            {1, 2}, {1, 2, 3}, {1, 3}, {1, 3, 2}, {2, 3}};
        due("the rings", x.value(6), rows.length);
        for (int ring = 0; ring < rows.length; ring++) {
            dueRing(x, ring, rows[ring]);
        }
        refuses("ring(20, 0)", x, INDEX, () -> x.ring(20, 0));
        refuses("ring(-1, 0)", x, INDEX, () -> x.ring(-1, 0));
        refuses("ring(20, 7)", x, INDEX, () -> x.ring(20, 7));
        refuses("ring(19, 7)", x, ARGUMENT, () -> x.ring(19, 7));
        refuses("ring(19, -1)", x, ARGUMENT, () -> x.ring(19, -1));
        x.dispute(0);
        dueRing(x, 0, 0, 2);

        PledgeRings y = new PledgeRings();
        y.begin(7);
        int[] round = {0, 6, 1, 5, 2, 4, 3};
        for (int k = 0; k < 7; k++) {
            y.promise(round[k], round[(k + 1) % 7], 5 + k, 1);
        }
        due("one ring of all", y.value(6), 1);
        dueRing(y, 0, round);
    }

    private static void promise14Room() {
        PledgeRings x = twoRings();
        due("room(0)", x.room(0), 4);
        due("room(1)", x.room(1), 6);
        refuses("room(2)", x, INDEX, () -> x.room(2));
        refuses("room(-1)", x, INDEX, () -> x.room(-1));
        x.pay(4, 7);
        due("room(1) by its last debt", x.room(1), 1);
        x.dispute(1);
        x.pay(0, 4);
        due("room(0) by its first debt", x.room(0), 1);
    }

    private static void promise15Value() {
        PledgeRings x = twoRings();
        dueValues(x, 4, 5, 5, 0, 28, 71, 2, 0, 0, 0, 2);
        x.pay(2, 4);
        x.dispute(0);
        x.pay(0, 5);
        x.discharge(0, 2);
        dueValues(x, 4, 5, 3, 1, 13, 31, 1, 9, 6, 1, 3);
        refuses("value(11)", x, ARGUMENT, () -> x.value(11));
        refuses("value(-1)", x, ARGUMENT, () -> x.value(-1));
    }

    private static void promise16Saving() {
        PledgeRings x = twoRings();
        due("saving(0)", x.saving(0), 4 * 7 + 4 * 3);
        due("saving(1)", x.saving(1), 5 * 7 + 2 + 6 + 6);
        due("the cost did not change", x.value(5), 71);
        refuses("saving(2)", x, INDEX, () -> x.saving(2));
        refuses("saving(-1)", x, INDEX, () -> x.saving(-1));
        x.dispute(1);
        due("saving(0) without the disputed one", x.saving(0), 4 * 2 + 4 * 3);
    }

    private static void promise17BestRing() {
        PledgeRings x = new PledgeRings();
        due("bestRing() without a ring", x.bestRing(), NONE);
        PledgeRings y = twoRings();
        due("bestRing()", y.bestRing(), 1);
        due("bestRing() of equal ones", eachToEach().bestRing(), 2);
    }

    private static void promise18CostByRings() {
        PledgeRings x = twoRings();
        due("costByRings()", x.costByRings(), 71 - 49 - 20);
        due("the cost did not change", x.value(5), 71);
        due("no discharge", x.value(9), 0);
        due("undo() of the last promise", x.undo(), 3);
        due("the promises", x.value(1), 4);
        due("costByRings() of nothing", new PledgeRings().costByRings(), 0);
    }

    private static void promise19LeastCost() {
        due("leastCost() of nothing", new PledgeRings().leastCost(), 0);
        PledgeRings x = twoRings();
        due("leastCost() as by rings", x.leastCost(), 71 - 69);
        x.dispute(1);
        due("leastCost() with a disputed one", x.leastCost(), 71 - 10 - 4 * 3 - 1 - 1);
        due("the cost did not change", x.value(5), 71);

        // The best ring 0 1 2 cuts both others, which together save more.
        PledgeRings y = new PledgeRings();
        y.promise(0, 1, 1, 9);
        y.promise(1, 2, 1, 9);
        y.promise(2, 0, 1, 9);
        y.promise(1, 0, 1, 8);
        y.promise(2, 3, 1, 1);
        y.promise(3, 1, 1, 1);
        due("costByRings() by the ring of 27", y.costByRings(), 8 + 1 + 1);
        due("leastCost() by rings of 17 and 11", y.leastCost(), 9);
        y.dispute(1);
        due("leastCost() by the ring of 17 alone", y.leastCost(), 37 - 17);
    }

    private static void promise20RingsWithout() {
        PledgeRings x = twoRings();
        int[] want = {2, 2, 1, 1, 1};
        for (int i = 0; i < want.length; i++) {
            due("ringsWithout(" + i + ")", x.ringsWithout(i), want[i]);
        }
        x.dispute(1);
        due("ringsWithout(0), alone then", x.ringsWithout(0), 0);
        due("ringsWithout(1), disputed", x.ringsWithout(1), 2);
        due("the rings did not change", x.value(6), 2);
        refuses("ringsWithout(5)", x, INDEX, () -> x.ringsWithout(5));
        refuses("ringsWithout(-1)", x, INDEX, () -> x.ringsWithout(-1));
        x.pay(2, 4);
        due("ringsWithout(2), not open", x.ringsWithout(2), 1);
    }

    private static void promise21KeyPromise() {
        PledgeRings x = new PledgeRings();
        due("keyPromise() of nothing", x.keyPromise(), NONE);
        x.promise(3, 2, 1, 1);
        x.promise(0, 1, 4, 1);
        due("keyPromise() without a ring", x.keyPromise(), 0);
        x.promise(1, 0, 4, 1);
        due("keyPromise(), the lower one", x.keyPromise(), 1);
        x.promise(1, 2, 4, 1);
        x.promise(2, 0, 4, 1);
        due("keyPromise() of two rings", x.keyPromise(), 1);
        x.promise(0, 1, 4, 1);
        due("keyPromise() if none is alone", x.keyPromise(), 2);
        x.dispute(2);
        due("keyPromise() past a disputed one", x.keyPromise(), 3);
        for (int i = 0; i < 6; i++) {
            x.pay(i, i == 0 ? 1 : 4);
        }
        due("keyPromise() if none is open", x.keyPromise(), NONE);
    }

    private static void promise22Mutual() {
        PledgeRings x = twoRings();
        due("mutual(0)", x.mutual(0), 4);
        due("mutual(2)", x.mutual(2), 0);
        x.promise(0, 2, 3, 1);
        due("mutual(0) of two", x.mutual(0), 4 + 3);
        due("mutual(1)", x.mutual(1), 4);
        due("mutual(2) of one", x.mutual(2), 3);
        due("mutual(3)", x.mutual(3), 0);
        x.dispute(2);
        due("mutual(0) without the disputed one", x.mutual(0), 3);
        refuses("mutual(4)", x, INDEX, () -> x.mutual(4));
        refuses("mutual(-1)", x, INDEX, () -> x.mutual(-1));
    }

    private static void promise23Append() {
        PledgeRings x = new PledgeRings();
        refuses("append(-1)", x, ARGUMENT, () -> x.append(-1));
        refuses("append(128)", x, ARGUMENT, () -> x.append(128));
        due("append(0)", x.append(0), 1);
        for (int length = 2; length <= 100; length++) {
            due("append(127)", x.append(127), length);
        }
        refuses("append(1) behind 100", x, STATE, () -> x.append(1));
        refuses("append(128) behind 100", x, ARGUMENT, () -> x.append(128));
        refuses("undo() behind append", x, STATE, x::undo);
        due("the length", x.clearText(), 100);
        due("append(64) then", x.append(64), 1);
    }

    private static void promise24ClearText() {
        PledgeRings x = new PledgeRings();
        due("clearText() of nothing", x.clearText(), 0);
        x.append('a');
        x.append(';');
        due("clearText()", x.clearText(), 2);
        due("clearText() again", x.clearText(), 0);
        refuses("undo() behind clearText", x, STATE, x::undo);
        due("carryOut() behind clearText", x.carryOut(), 0);
    }

    private static void promise25CarryOut() {
        PledgeRings x = new PledgeRings();
        due("carryOut() of no orders", x.carryOut(), 0);
        due("undo() of no orders", x.undo(), 0);
        due("carryOut()", carryOut(x, "p01:0005,2;p10:1000,9;x1;y01;b;"), 5);
        due("the text stays", x.append('a'), 32);
        duePromise(x, 0, 0, 1, 0, 2, 0, 5, 0, 5);
        duePromise(x, 1, 1, 0, 995, 9, 0, 1000, 0, 5);
        due("the discharges", x.value(9), 1);
        due("undo() of all orders", x.undo(), 0);
        due("the promises behind undo", x.value(1), 0);
        due("the text behind undo", x.clearText(), 32);
        due("b without a ring", carryOut(x, "a;p01:1,1;b;p10:1,1;"), 2);
        due("the promises", x.value(1), 1);
        due("x of no promise", carryOut(x, "x99;a;"), 0);
        due("y of none that is disputed", carryOut(x, "x00;y0;y0;a;"), 2);
        due("x of a disputed one", carryOut(x, "x0;x0;"), 1);
        due("from and to the same", carryOut(x, "p11:1,1;"), 0);
        due("no such party", carryOut(x, "p14:1,1;"), 0);
        due("no such party owes", carryOut(x, "p41:1,1;"), 0);
        due("a without a ring", carryOut(x, "a;a;"), 2);
        due("undo() of the last carryOut", x.undo(), 3);
        while (x.value(1) < 40) {
            x.promise(2, 3, 1, 1);
        }
        due("promises behind 40", carryOut(x, "a;p01:1,1;a;"), 1);
        PledgeRings y = twoRings();
        due("a discharges all", carryOut(y, "a;"), 1);
        due("by two discharges", y.value(9), 2);
        due("100 bytes", carryOut(y, "a;".repeat(50)), 50);
    }

    private static void promise26Undo() {
        PledgeRings x = new PledgeRings();
        refuses("undo() of nothing", x, STATE, x::undo);
        for (int n = 0; n < 6; n++) {
            x.promise(0, 1, 1 + n, 1);
        }
        x.append('a');
        for (int left = 3; left >= 0; left--) {
            due("undo()", x.undo(), left);
            due("the promises behind it", x.value(1), 2 + left);
        }
        refuses("undo() behind four", x, STATE, x::undo);
        due("the text behind undo", x.clearText(), 1);
        due("the number of the next one", x.promise(1, 0, 9, 9), 2);
        due("undo() of it", x.undo(), 0);

        PledgeRings y = twoRings();
        long before = y.digest();
        y.dischargeAll();
        y.begin(3);
        y.undo();
        y.undo();
        // The digest tells the number of saved states as its last value.
        due("the digest behind undo", y.digest(), before - 4 + 2);
        long third = y.digest();
        y.pay(0, 1);
        y.dispute(0);
        y.undo();
        y.undo();
        due("the digest behind two undone calls", y.digest(), third);
    }

    private static void promise27Digest() {
        due("digest() of a new object", new PledgeRings().digest(), digestOf(PledgeRings::new, 0, 0));
        PledgeRings y = somewhatChanged();
        due("digest()", y.digest(), digestOf(PromisesTest::somewhatChanged, 2, 4));
        y.undo();
        due("digest() behind undo", y.digest(), digestOf(() -> undone(somewhatChanged()), 2, 3));
        y.begin(2);
        due("digest() of two parties", y.digest(), digestOf(() -> begun(2), 2, 4));
    }

    private static PledgeRings somewhatChanged() {
        PledgeRings x = twoRings();
        x.pay(3, 1);
        x.dispute(3);
        x.append('p');
        x.append(0);
        return x;
    }

    private static PledgeRings undone(PledgeRings x) {
        x.undo();
        return x;
    }
}
