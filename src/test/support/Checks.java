import java.util.ArrayList;
import java.util.List;
import java.util.function.LongSupplier;
import java.util.function.Supplier;
import java.util.function.ToLongFunction;

/** What several tests need: a count of wrong answers, objects to ask, and a look at all that one answers. */
abstract class Checks {
    static final Class<?> INDEX = IndexOutOfBoundsException.class;
    static final Class<?> ARGUMENT = IllegalArgumentException.class;
    static final Class<?> STATE = IllegalStateException.class;
    static final int NONE = PledgeRings.NONE;

    /** So many rings of an object are looked at, that all looks at one stay below 512 calls. */
    private static final int MOST_RINGS_SEEN = 30;
    private static final int MOST_FAULTS_SHOWN = 40;

    private static int wrong;
    private static int checked;

    static void due(String call, long got, long want) {
        due(call, Long.toString(got), Long.toString(want));
    }

    static void due(String call, String got, String want) {
        checked++;
        if (!got.equals(want)) {
            wrong++;
            if (wrong <= MOST_FAULTS_SHOWN) {
                System.out.println(call + " answered " + got + ", due is " + want);
            }
        }
    }

    static int wrongSoFar() {
        return wrong;
    }

    static void close(String test) {
        if (wrong > 0) {
            System.out.println(test + ": " + wrong + " of " + checked + " answers are wrong");
            System.exit(1);
        }
        System.out.println(test + ": " + checked + " answers are as due");
    }

    /** A call's answer as a text, or the name of what it throws. */
    static String answer(LongSupplier call) {
        try {
            return Long.toString(call.getAsLong());
        } catch (RuntimeException e) {
            return e.getClass().getName();
        }
    }

    static void write(PledgeRings x, String text) {
        for (int k = 0; k < text.length(); k++) {
            x.append(text.charAt(k));
        }
    }

    static int carryOut(PledgeRings x, String text) {
        x.clearText();
        write(x, text);
        return x.carryOut();
    }

    static void dueRing(PledgeRings x, int ring, int... parties) {
        for (int place = 0; place < 7; place++) {
            int want = place < parties.length ? parties[place] : NONE;
            due("ring(" + ring + ", " + place + ")", x.ring(ring, place), want);
        }
    }

    static void duePromise(PledgeRings x, int promise, int... want) {
        for (int what = 0; what < want.length; what++) {
            due("promiseOf(" + promise + ", " + what + ")", x.promiseOf(promise, what), want[what]);
        }
    }

    static void dueValues(PledgeRings x, int... want) {
        for (int what = 0; what < want.length; what++) {
            due("value(" + what + ")", x.value(what), want[what]);
        }
    }

    static void dueNets(PledgeRings x, int... want) {
        for (int party = 0; party < want.length; party++) {
            due("net(" + party + ")", x.net(party), want[party]);
        }
    }

    /** Two rings that share the debt of 0 to 1: 0 1 with room 4 and 0 1 2 with room 6. */
    static PledgeRings twoRings() {
        PledgeRings x = new PledgeRings();
        x.promise(0, 1, 5, 2);
        x.promise(0, 1, 5, 7);
        x.promise(1, 0, 4, 3);
        x.promise(1, 2, 6, 1);
        x.promise(2, 0, 8, 1);
        return x;
    }

    static PledgeRings begun(int parties) {
        PledgeRings x = new PledgeRings();
        x.begin(parties);
        return x;
    }

    /** The two rings among five parties, a disputed promise, one that is not open, a text, and three saved states. */
    static PledgeRings some() {
        PledgeRings x = begun(5);
        carryOut(x, "p01:5,2;p01:5,7;p10:4,3;p12:6,1;p20:8,1;p34:1000,9;p43:2,9;x5;");
        x.pay(6, 2);
        x.clearText();
        write(x, "p42:0034,5;y5;b;p33:1,1;a;");
        return x;
    }

    /** As some(), with a release, a cut ring and four saved states of which none is like another. */
    static PledgeRings busy() {
        PledgeRings x = some();
        x.discharge(0, 1);
        x.promise(2, 3, 7, 4);
        x.dispute(3);
        return x;
    }

    /** 40 promises, one for each pair of seven parties but 6 to 4 and 6 to 5. */
    static PledgeRings forty() {
        PledgeRings x = begun(7);
        for (int n = 0; n < 40; n++) {
            int to = n % 6;
            x.promise(n / 6, to < n / 6 ? to : to + 1, 1000 - 17 * n, 1 + n % 9);
        }
        return x;
    }

    /** 40 promises, 100 bytes of text and four saved states. */
    static PledgeRings full() {
        PledgeRings x = forty();
        write(x, "x00;y00;".repeat(12) + "x39;");
        return x;
    }

    /** Looks that the call throws just that, and that it changed nothing that can be asked for. */
    static void refused(String call, Class<?> want, Supplier<PledgeRings> make, ToLongFunction<PledgeRings> asked) {
        PledgeRings x = make.get();
        due(call, answer(() -> asked.applyAsLong(x)), want.getName());
        changesNothing(call, make, asked);
    }

    /** Refused by a new object, by one with all kinds of promises, and by one where all is full. */
    static void refusedByAll(String call, Class<?> want, ToLongFunction<PledgeRings> asked) {
        refused(call + " of a new object", want, PledgeRings::new, asked);
        refused(call + " of a busy one", want, Checks::busy, asked);
        refused(call + " of a full one", want, Checks::full, asked);
    }

    static void changesNothing(String call, Supplier<PledgeRings> make, ToLongFunction<PledgeRings> asked) {
        dueAll(call, everything(behind(make, asked)), everything(make));
    }

    /** For an object with three saved states at most: undo brings back all that was there before the call. */
    static void undoable(String call, Supplier<PledgeRings> make, ToLongFunction<PledgeRings> asked) {
        PledgeRings x = make.get();
        due(call + " is not refused", answer(() -> asked.applyAsLong(x) & 0), "0");
        dueAll(call + " and undo()", everything(behind(behind(make, asked), PledgeRings::undo)), everything(make));
    }

    private static void dueAll(String call, List<String> got, List<String> want) {
        int same = 0;
        while (same < got.size() && same < want.size() && got.get(same).equals(want.get(same))) {
            same++;
        }
        due("behind " + call + ", asked for everything,", shown(got, same), shown(want, same));
    }

    private static String shown(List<String> answers, int place) {
        return place < answers.size() ? "answer " + place + " " + answers.get(place) : "no more";
    }

    private static Supplier<PledgeRings> behind(Supplier<PledgeRings> make, ToLongFunction<PledgeRings> asked) {
        return () -> {
            PledgeRings x = make.get();
            answer(() -> asked.applyAsLong(x));
            return x;
        };
    }

    /** All answers, now and behind each undo, and what the text does; an object made anew for each part of them. */
    static List<String> everything(Supplier<PledgeRings> make) {
        List<String> all = new ArrayList<>();
        for (int undone = 0; undone <= 5; undone++) {
            numbers(all, undo(all, make.get(), undone));
            promises(all, undo(all, make.get(), undone));
            rings(all, undo(all, make.get(), undone));
        }
        PledgeRings x = make.get();
        all.add("carryOut() " + answer(x::carryOut) + " digest() " + x.digest() + " clearText() " + x.clearText());
        PledgeRings y = make.get();
        all.add("append(97) " + answer(() -> y.append('a')) + " append(59) " + answer(() -> y.append(';'))
                + " carryOut() " + answer(y::carryOut) + " digest() " + y.digest());
        return all;
    }

    private static PledgeRings undo(List<String> all, PledgeRings x, int times) {
        for (int n = 0; n < times; n++) {
            all.add("undo() " + answer(x::undo));
        }
        return x;
    }

    private static void numbers(List<String> all, PledgeRings x) {
        all.add("digest() " + x.digest() + " bestRing() " + x.bestRing() + " costByRings() " + x.costByRings()
                + " leastCost() " + x.leastCost() + " keyPromise() " + x.keyPromise());
        for (int what = 0; what <= 10; what++) {
            all.add("value(" + what + ") " + x.value(what));
        }
        for (int party = 0; party < x.value(0); party++) {
            all.add("net(" + party + ") " + x.net(party) + " mutual(" + party + ") " + x.mutual(party));
            for (int other = 0; other < x.value(0); other++) {
                all.add("debt(" + party + ", " + other + ") " + x.debt(party, other));
            }
        }
    }

    private static void promises(List<String> all, PledgeRings x) {
        int promises = x.value(1);
        for (int i = 0; i < promises; i++) {
            all.add("ringsWithout(" + i + ") " + x.ringsWithout(i));
            for (int what = 0; what <= 7; what++) {
                all.add("promiseOf(" + i + ", " + what + ") " + x.promiseOf(i, what));
            }
        }
    }

    private static void rings(List<String> all, PledgeRings x) {
        int rings = Math.min(MOST_RINGS_SEEN, x.value(6));
        for (int ring = 0; ring < rings; ring++) {
            all.add("room(" + ring + ") " + x.room(ring) + " saving(" + ring + ") " + x.saving(ring));
            for (int place = 0; place <= 6; place++) {
                all.add("ring(" + ring + ", " + place + ") " + x.ring(ring, place));
            }
        }
    }

    /** The document's hash, from the answers of objects that are made anew; length and saved are told. */
    static long digestOf(Supplier<PledgeRings> make, int length, int saved) {
        PledgeRings x = make.get();
        long h = 31L * 3701 + length;
        for (int what = 0; what <= 10; what++) {
            h = 31 * h + x.value(what);
        }
        PledgeRings y = make.get();
        for (int i = 0; i < x.value(1); i++) {
            for (int what = 0; what <= 7; what++) {
                h = 31 * h + y.promiseOf(i, what);
            }
        }
        for (int party = 0; party < x.value(0); party++) {
            h = 31 * h + x.net(party);
            for (int other = 0; other < x.value(0); other++) {
                h = 31 * h + x.debt(party, other);
            }
        }
        h = 31 * h + x.bestRing();
        h = 31 * h + x.leastCost();
        return 31 * h + saved;
    }
}
