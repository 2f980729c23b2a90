import java.util.function.Supplier;

/** The boundaries that the document names for the text and its calls: "Text" in "Terms", and promises 23 to 25. */
public final class TextBoundsTest extends Sentences {
    private static final int LEAST = Integer.MIN_VALUE;
    private static final int MOST = Integer.MAX_VALUE;
    private static final String DIGITS = "0123456789";
    private static final String ORDERS = "pxyba";

    public static void main(String[] args) {
        lengthAndOrders();
        orderP();
        orderPNumbers();
        otherOrders();
        signs();
        errorPositions();
        numbersOutOfRange();
        promise23Append();
        promise24ClearText();
        promise25CarryOut();
        promise25WouldThrow();
        promise25Answers();
        closeSentences("TextBoundsTest");
    }

    private static int carried(String text) {
        return carryOut(new PledgeRings(), text);
    }

    private static void dueCarried(String text, int orders) {
        due("carryOut() of " + text, carried(text), orders);
    }

    private static void dueError(String text, int position) {
        due("carryOut() of " + text, carried(text), -10 - position);
    }

    private static Supplier<PledgeRings> with(Supplier<PledgeRings> make, String text) {
        return () -> {
            PledgeRings x = make.get();
            x.clearText();
            write(x, text);
            return x;
        };
    }

    /** The amount that the text's first promise has. */
    private static int amountBy(String text) {
        PledgeRings x = new PledgeRings();
        due("carryOut() of " + text, carryOut(x, text), 1);
        return x.value(1) == 1 ? x.promiseOf(0, 2) : NONE;
    }

    private static void lengthAndOrders() {
        in("Terms, Text.");
        holds("The text has at most 100 bytes.", () -> {
            PledgeRings x = new PledgeRings();
            write(x, "a;".repeat(49) + "b");
            due("byte 100", x.append(';'), 100);
            due("its 50 orders, the last without a ring", x.carryOut(), 49);
            refused("byte 101", STATE, Checks::full, y -> y.append(';'));
        });
        holds("It is a sequence of orders, each terminated by a semicolon", () -> {
            dueCarried("a;", 1);
            dueCarried("a;a;p01:1,1;a;", 4);
            dueError("a", 1);
            dueError("a;a", 3);
            dueError("ab;", 1);
            dueError(";", 0);
            dueError("a;;", 2);
            dueError("a:", 1);
        });
    }

    private static void orderP() {
        holds("\"p\", two party digits 0 to 6 (who owes, and to whom)", () -> {
            for (char digit = '0'; digit <= '6'; digit++) {
                dueCarried("p" + digit + "0:1,1;", digit >= '1' && digit <= '3' ? 1 : 0);
                dueCarried("p0" + digit + ":1,1;", digit >= '1' && digit <= '3' ? 1 : 0);
            }
            PledgeRings x = begun(7);
            carryOut(x, "p06:1,1;p60:2,1;");
            duePromise(x, 0, 0, 6, 1);
            duePromise(x, 1, 6, 0, 2);
            for (char sign : new char[] {'/', '7', '8', '9', ':', '-'}) {
                dueError("p" + sign + "0:1,1;", 1);
                dueError("p0" + sign + ":1,1;", 2);
            }
            dueError("p:1,1;", 1);
            dueError("p0:1,1;", 2);
            dueError("p012:1,1;", 3);
        });
        holds("a colon, an amount of one to four digits", () -> {
            due("one digit", amountBy("p01:1,1;"), 1);
            due("two digits", amountBy("p01:10,1;"), 10);
            due("three digits", amountBy("p01:100,1;"), 100);
            due("four digits", amountBy("p01:1000,1;"), 1000);
            dueError("p01:,1;", 4);
            dueError("p01:10000,1;", 8);
            dueError("p01:01000,1;", 8);
            dueError("p01;1,1;", 3);
            dueError("p011,1;", 3);
            dueError("p01::1,1;", 4);
        });
    }

    private static void orderPNumbers() {
        holds("1 to 1000, a comma", () -> {
            due("the least amount", amountBy("p01:1,1;"), 1);
            due("the greatest amount", amountBy("p01:1000,1;"), 1000);
            dueError("p01:0,1;", 4);
            dueError("p01:1001,1;", 4);
            for (int amount = 0; amount <= 9999; amount++) {
                int want = amount >= 1 && amount <= 1000 ? 1 : -14;
                due("amount " + amount, carried("p01:" + amount + ",1;"), want);
            }
            dueError("p01:1;1;", 5);
            dueError("p01:1,,1;", 6);
        });
        holds("a rate digit 1 to 9, to make a promise", () -> {
            for (char digit = '1'; digit <= '9'; digit++) {
                PledgeRings x = new PledgeRings();
                due("rate " + digit, carryOut(x, "p01:1," + digit + ";"), 1);
                due("its rate", x.promiseOf(0, 3), digit - '0');
            }
            for (char sign : new char[] {'0', '/', ':', ';', ','}) {
                dueError("p01:1," + sign + ";", 6);
            }
            dueError("p01:1,0", 6);
            dueError("p01:1,00", 6);
            dueError("p01:1,01;", 6);
            dueError("p01:1,10;", 7);
            dueError("p01:1,1", 7);
        });
    }

    private static void otherOrders() {
        holds("\"x\" or \"y\" and a promise number of one or two digits", () -> {
            PledgeRings x = full();
            due("dispute and settle", carryOut(x, "x0;x09;y9;x39;"), 4);
            due("promise 0", x.promiseOf(0, 4), 1);
            due("promise 9", x.promiseOf(9, 4), 0);
            due("promise 39", x.promiseOf(39, 4), 1);
            for (String sign : new String[] {"x", "y"}) {
                dueError(sign + ";", 1);
                dueError(sign + "/;", 1);
                dueError(sign + ":;", 1);
                dueError(sign + "123;", 3);
            }
        });
        holds("(any such number can stand there)", () -> {
            for (int number = 0; number <= 99; number++) {
                dueCarried("x" + number + ";", 0);
                dueCarried("y" + number + ";", 0);
                dueCarried("a;x" + number / 10 + number % 10 + ";", 1);
            }
        });
        holds("\"b\", to discharge the best ring by its room", () -> {
            PledgeRings x = twoRings();
            due("one ring of two", carryOut(x, "b;"), 1);
            dueValues(x, 4, 5, 3, 0, 10, 22, 1, 0, 18, 1, 2);
            due("the other one, and none", carryOut(x, "b;b;"), 1);
            dueError("b0;", 1);
        });
        holds("\"a\", to discharge all.", () -> {
            PledgeRings x = twoRings();
            due("two rings", carryOut(x, "a;"), 1);
            dueValues(x, 4, 5, 1, 0, 2, 2, 0, 0, 26, 2, 2);
            due("no ring", carryOut(x, "a;a;"), 2);
            due("the discharges", x.value(9), 2);
            dueError("a0;", 1);
        });
    }

    private static void signs() {
        holds("There are no spaces", () -> {
            String text = "p01:12,3;x45;b;";
            for (int k = 0; k <= text.length(); k++) {
                dueError(text.substring(0, k) + " " + text.substring(k), k);
            }
            dueError(" ", 0);
            dueError("a;\n", 2);
        });
        holds("there may be no orders.", () -> {
            PledgeRings x = new PledgeRings();
            due("carryOut() of no text", x.carryOut(), 0);
            due("undo() behind it", x.undo(), 0);
            PledgeRings y = full();
            y.clearText();
            due("carryOut() of an emptied text", y.carryOut(), 0);
        });
        holds("Numbers can have zeros in front.", () -> {
            due("01", amountBy("p01:01,1;"), 1);
            due("0001", amountBy("p01:0001,1;"), 1);
            due("0999", amountBy("p01:0999,1;"), 999);
            due("010", amountBy("p01:010,1;"), 10);
            PledgeRings x = twoRings();
            due("00 and 04", carryOut(x, "x00;x04;y00;"), 3);
            due("promise 0", x.promiseOf(0, 4), 0);
            due("promise 4", x.promiseOf(4, 4), 1);
            dueError("p01:00001,1;", 8);
            dueError("x007;", 3);
        });
    }

    private static void errorPositions() {
        holds("The syntax error position is the index of the first byte that cannot stand where it stands", () -> {
            String text = "p01:12,3;x45;y6;b;a;a;";
            String[] canStand = {
                ORDERS, "0123456", "0123456", ":", DIGITS, DIGITS + ",", DIGITS + ",", "123456789", ";",
                ORDERS, DIGITS, DIGITS + ";", ";", ORDERS, DIGITS, DIGITS + ";", ORDERS, ";", ORDERS, ";", ORDERS, ";"};
            for (int k = 0; k < canStand.length; k++) {
                for (char sign = 0; sign <= 127; sign++) {
                    if (canStand[k].indexOf(sign) < 0) {
                        dueError(text.substring(0, k) + sign + text.substring(k + 1), k);
                        dueError(text.substring(0, k) + sign, k);
                    }
                }
            }
            dueError("a;q;q;", 2);
            dueError("a;q;p01:0,1;", 2);
            dueError("p01:1,0;p01:0,1;", 6);
            dueError("a;".repeat(49) + "a:", 99);
        });
        holds("(a digit too many, too)", () -> {
            dueError("p010:1,1;", 3);
            dueError("p01:00000", 8);
            dueError("p01:10010,1;", 8);
            dueError("p01:99999,1;", 8);
            dueError("p01:1,11;", 7);
            dueError("x000", 3);
            dueError("y999;", 3);
        });
        holds("or the length of the text if the text ends too early.", () -> {
            String text = "p01:1000,9;x12;y3;b;a;";
            for (int k = 0; k <= text.length(); k++) {
                String begun = text.substring(0, k);
                if (begun.isEmpty() || begun.endsWith(";")) {
                    due("carryOut() of " + begun, Math.min(0, carried(begun)), 0);
                } else {
                    dueError(begun, k);
                }
            }
            dueError("a;".repeat(49) + "b", 99);
            dueError("a;".repeat(49) + "x1", 100);
        });
    }

    private static void numbersOutOfRange() {
        holds("For a number that is out of its range it is the index of its first digit", () -> {
            dueError("p01:0,1;", 4);
            dueError("p01:00,1;", 4);
            dueError("p01:000,1;", 4);
            dueError("p01:0000,1;", 4);
            dueError("p01:1001,1;", 4);
            dueError("p01:9999,1;", 4);
            dueError("a;p01:1000,1;x1;p01:0,1;", 20);
            dueError("a;".repeat(45) + "p01:1001,1", 94);
        });
        holds("found when a byte that is no digit, whichever it is", () -> {
            for (char sign = 0; sign <= 127; sign++) {
                boolean isDigit = DIGITS.indexOf(sign) >= 0;
                dueError("p01:1001" + sign, isDigit ? 8 : 4);
                dueError("p01:0000" + sign + "1;", isDigit ? 8 : 4);
                if (!isDigit) {
                    dueError("p01:0" + sign, 4);
                }
            }
            dueCarried("p01:01,1;", 1);
        });
        holds("or the end of the text, follows it.", () -> {
            dueError("p01:0", 4);
            dueError("p01:0000", 4);
            dueError("p01:1001", 4);
            dueError("p01:1000", 8);
            dueError("a;".repeat(47) + "p01:00", 98);
            dueError("a;".repeat(46) + "p01:1001", 96);
        });
    }

    private static void promise23Append() {
        in("Promise 23");
        holds("Appends a byte to the text.", () -> {
            PledgeRings x = new PledgeRings();
            x.append('a');
            due("carryOut() of a", x.carryOut(), -11);
            x.append(';');
            due("carryOut() of a;", x.carryOut(), 1);
            due("undo() of it, for append saves nothing", x.undo(), 0);
            refused("undo() behind append", STATE, with(PledgeRings::new, "a;"), PledgeRings::undo);
        });
        holds("`value`: the byte, 0 to 127", () -> {
            PledgeRings x = new PledgeRings();
            due("append(0)", x.append(0), 1);
            due("append(127)", x.append(127), 2);
        });
        holds("Returns the new length of the text.", () -> {
            PledgeRings x = new PledgeRings();
            for (int length = 1; length <= 100; length++) {
                due("append(length)", x.append(length), length);
            }
            x.clearText();
            due("append(1) of an emptied text", x.append(1), 1);
        });
        holds("Throws `IllegalArgumentException` if value is out of range", () -> {
            for (int value : new int[] {-1, 128, LEAST, MOST}) {
                refusedByAll("append(" + value + ")", ARGUMENT, x -> x.append(value));
            }
        });
        holds("Throws `IllegalStateException` if the text has 100 bytes", () -> {
            refused("append(0)", STATE, Checks::full, x -> x.append(0));
            refused("append(127)", STATE, Checks::full, x -> x.append(127));
            PledgeRings x = new PledgeRings();
            write(x, "a".repeat(99));
            due("append(0) of 99", x.append(0), 100);
        });
    }

    private static void promise24ClearText() {
        in("Promise 24");
        holds("Empties the text.", () -> {
            PledgeRings x = full();
            x.clearText();
            due("clearText() again", x.clearText(), 0);
            due("carryOut()", x.carryOut(), 0);
            due("append(97)", x.append('a'), 1);
            changesNothing("clearText() of no text", PledgeRings::new, PledgeRings::clearText);
            refused("undo() behind clearText()", STATE, with(PledgeRings::new, ""), PledgeRings::undo);
            due("undo() behind it, for it saves nothing", some().clearText() + some().undo(), 26 + 2);
        });
        holds("Returns the length that it had.", () -> {
            due("of a new object", new PledgeRings().clearText(), 0);
            due("of a full text", full().clearText(), 100);
            PledgeRings x = new PledgeRings();
            x.append(0);
            due("of one byte", x.clearText(), 1);
        });
    }

    private static void promise25CarryOut() {
        in("Promise 25");
        holds("Carries out the orders of the text", () -> {
            PledgeRings x = new PledgeRings();
            due("six orders", carryOut(x, "p01:0005,2;p10:1000,9;x1;y01;b;a;"), 6);
            duePromise(x, 0, 0, 1, 0, 2, 0, 5, 0, 5);
            duePromise(x, 1, 1, 0, 995, 9, 0, 1000, 0, 5);
            dueValues(x, 4, 2, 1, 0, 995, 8955, 0, 0, 10, 1, 995);
            PledgeRings y = new PledgeRings();
            due("50 orders", carryOut(y, "a;".repeat(50)), 50);
        });
        holds("The text stays as it is.", () -> {
            PledgeRings x = new PledgeRings();
            due("carryOut()", carryOut(x, "p01:7,1;"), 1);
            due("carryOut() again", x.carryOut(), 1);
            duePromise(x, 1, 0, 1, 7, 1);
            write(x, "x1;");
            due("carryOut() with one more", x.carryOut(), 2);
            due("clearText()", x.clearText(), 11);
            PledgeRings y = new PledgeRings();
            due("carryOut() of a text that ends too early", carryOut(y, "p01:1"), -15);
            write(y, "000,9;");
            due("carryOut() of the whole", y.carryOut(), 1);
            duePromise(y, 0, 0, 1, 1000, 9);
            PledgeRings z = new PledgeRings();
            due("carryOut() up to what would throw", carryOut(z, "a;b;a;"), 1);
            due("clearText()", z.clearText(), 6);
        });
        holds("Undoable (one saved state, also if no order is carried out), if there is no syntax error.", () -> {
            undoable("carryOut() of five orders", Checks::some, PledgeRings::carryOut);
            undoable("carryOut() of no text", PledgeRings::new, PledgeRings::carryOut);
            undoable("carryOut() of one that throws", with(Checks::some, "x99;a;"), PledgeRings::carryOut);
            undoable("carryOut() of three that stop", with(Checks::some, "a;a;b;b;"), PledgeRings::carryOut);
            PledgeRings x = full();
            x.carryOut();
            due("undo() of the last of five", x.undo(), 3);
        });
    }

    private static void promise25WouldThrow() {
        holds("up to the first one that would throw an exception (that one is not carried out).", () -> {
            dueStop("p50:1,1;");
            dueStop("p05:1,1;");
            dueStop("p00:1,1;");
            dueStop("p44:1,1;");
            dueStop("x7;");
            dueStop("x99;");
            dueStop("x5;");
            dueStop("x6;");
            dueStop("y7;");
            dueStop("y0;");
            dueStop("y6;");
            dueStopOf(TextBoundsTest::discharged, "y5;x5;", "b;");
            dueStopOf(Checks::full, "x3;y3;", "p01:1,1;");
            due("p of the last party", carryOut(some(), "p40:1,1;p04:1,1;"), 2);
            due("x of the last promise", carryOut(some(), "p01:1,1;x7;y7;x07;"), 4);
        });
    }

    private static PledgeRings discharged() {
        PledgeRings x = some();
        x.dischargeAll();
        return x;
    }

    private static void dueStop(String order) {
        dueStopOf(Checks::some, "y5;x5;y5;x5;", order);
    }

    /** The order would throw: behind others it ends them, and those behind it are not carried out. */
    private static void dueStopOf(Supplier<PledgeRings> make, String others, String order) {
        long orders = others.chars().filter(sign -> sign == ';').count();
        dueSame(make, others + order + "x4;a;", others, orders);
        dueSame(make, others + order, others, orders);
        dueSame(make, order + others, "", 0);
    }

    private static void dueSame(Supplier<PledgeRings> make, String text, String carriedOut, long orders) {
        PledgeRings x = with(make, text).get();
        PledgeRings y = with(make, carriedOut).get();
        due("carryOut() of " + text, x.carryOut(), orders);
        due("carryOut() of " + carriedOut, y.carryOut(), orders);
        x.clearText();
        y.clearText();
        due("digest() behind " + text, x.digest(), y.digest());
    }

    private static void promise25Answers() {
        holds("Returns the number of orders that are carried out", () -> {
            dueCarried("", 0);
            dueCarried("b;", 0);
            dueCarried("a;", 1);
            dueCarried("a;".repeat(50), 50);
            dueCarried("a;".repeat(49) + "b;", 49);
        });
        holds("-10 minus the syntax error position if there is a syntax error", () -> {
            dueError("q", 0);
            dueError("a", 1);
            dueError("a;".repeat(49) + "qa", 98);
            dueError("a;".repeat(49) + "aa", 99);
            dueError("a;".repeat(48) + "p01:", 100);
        });
        holds("(then nothing changes)", () -> {
            String[] texts = {"q", "a;b;p01:1,1;x0", "x0;p01:1001,1;", "a;p01:0", "p01:1,1;\u0000", "a;".repeat(49) + "aa"};
            for (String text : texts) {
                changesNothing("carryOut() of " + text, with(PledgeRings::new, text), PledgeRings::carryOut);
                changesNothing("carryOut() of " + text, with(Checks::busy, text), PledgeRings::carryOut);
                due("the saved states behind " + text, answer(with(PledgeRings::new, text).get()::undo), STATE.getName());
            }
            changesNothing("carryOut() of 40", with(Checks::full, "x0;a"), PledgeRings::carryOut);
        });
    }
}
