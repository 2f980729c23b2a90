import java.util.ArrayList;
import java.util.Arrays;
import java.util.List;
import java.util.Random;
import java.util.function.LongSupplier;
import java.util.regex.Matcher;
import java.util.regex.Pattern;

/** Compares random runs of calls with a model that follows the document's words as slowly as it likes. */
public final class RandomRunsTest {
    private static final int RUNS = 400;
    /** An object is promised to answer 512 calls; the longest step of a run takes fewer than 110. */
    private static final int MOST_CALLS = 400;

    private static int wrong;
    private static int calls;

    public static void main(String[] args) {
        for (int run = 0; run < RUNS && wrong < 20; run++) {
            oneRun(run);
        }
        if (wrong > 0) {
            System.out.println("RandomRunsTest: " + wrong + " wrong answers");
            System.exit(1);
        }
        System.out.println("RandomRunsTest: " + RUNS + " runs as the model has them");
    }

    private static String answer(LongSupplier call) {
        try {
            return Long.toString(call.getAsLong());
        } catch (RuntimeException e) {
            return e.getClass().getName();
        }
    }

    private static void compare(int run, String call, LongSupplier program, LongSupplier model) {
        calls++;
        String got = answer(program);
        String want = answer(model);
        if (!got.equals(want)) {
            wrong++;
            System.out.println("run " + run + ": " + call + " answered " + got + ", the model has " + want);
        }
    }

    /** Few parties, small amounts and few rates in some runs bring ties, closed promises and full books. */
    private static void oneRun(int run) {
        Random random = new Random(7700 + run);
        PledgeRings x = new PledgeRings();
        Model m = new Model();
        calls = 0;
        int[] amounts = {3, 12, 1000};
        int mostAmount = amounts[random.nextInt(3)];
        int mostRate = random.nextBoolean() ? 9 : 2;
        boolean filling = random.nextInt(3) == 0;
        if (random.nextInt(4) > 0) {
            int parties = 2 + random.nextInt(6);
            compare(run, "begin " + parties, () -> x.begin(parties), () -> m.begin(parties));
        }
        while (calls < MOST_CALLS && wrong < 20) {
            int kind = random.nextInt(100);
            if (kind < (filling ? 45 : 22)) {
                int from = party(random, m);
                int to = party(random, m);
                int amount = random.nextInt(15) == 0 ? random.nextInt(1200) - 10 : 1 + random.nextInt(mostAmount);
                int rate = random.nextInt(25) == 0 ? random.nextInt(14) - 2 : 1 + random.nextInt(mostRate);
                compare(run, "promise " + from + " " + to + " " + amount + " " + rate,
                        () -> x.promise(from, to, amount, rate), () -> m.promise(from, to, amount, rate));
            } else if (kind < 60) {
                change(run, random, x, m, mostAmount);
            } else if (kind < 90) {
                ask(run, random, x, m);
            } else if (kind < 96) {
                text(run, random, x, m);
            } else {
                compare(run, "digest", x::digest, m::digest);
            }
        }
        compare(run, "digest", x::digest, m::digest);
    }

    private static int party(Random random, Model m) {
        return random.nextInt(25) == 0 ? random.nextInt(11) - 2 : random.nextInt(m.parties);
    }

    private static int promise(Random random, Model m) {
        return random.nextInt(20) == 0 ? random.nextInt(44) - 2 : random.nextInt(Math.max(1, m.promises.size()));
    }

    private static int ring(Random random, Model m) {
        int rings = m.rings().size();
        return random.nextInt(8) == 0 ? random.nextInt(rings + 3) - 1 : random.nextInt(Math.max(1, rings));
    }

    private static void change(int run, Random random, PledgeRings x, Model m, int mostAmount) {
        int i = promise(random, m);
        int r = ring(random, m);
        int amount = random.nextInt(10) == 0 ? -random.nextInt(2) : 1 + random.nextInt(Math.min(20, mostAmount));
        switch (random.nextInt(16)) {
            case 0: case 1: case 2:
                compare(run, "pay " + i + " " + amount, () -> x.pay(i, amount), () -> m.pay(i, amount));
                break;
            case 3: case 4: case 5:
                compare(run, "dispute " + i, () -> x.dispute(i), () -> m.dispute(i));
                break;
            case 6: case 7:
                compare(run, "settle " + i, () -> x.settle(i), () -> m.settle(i));
                break;
            case 8: case 9: case 10:
                compare(run, "discharge " + r + " " + amount, () -> x.discharge(r, amount), () -> m.discharge(r, amount));
                break;
            case 11:
                compare(run, "dischargeBest", x::dischargeBest, m::dischargeBest);
                break;
            case 12:
                compare(run, "dischargeAll", x::dischargeAll, m::dischargeAll);
                break;
            case 13: case 14:
                compare(run, "undo", x::undo, m::undo);
                break;
            default:
                if (random.nextInt(6) == 0) {
                    int parties = 1 + random.nextInt(8);
                    compare(run, "begin " + parties, () -> x.begin(parties), () -> m.begin(parties));
                }
        }
    }

    private static void ask(int run, Random random, PledgeRings x, Model m) {
        int i = promise(random, m);
        int r = ring(random, m);
        int a = party(random, m);
        int b = party(random, m);
        int what = random.nextInt(13) - 1;
        switch (random.nextInt(13)) {
            case 0:
                compare(run, "promiseOf " + i + " " + what, () -> x.promiseOf(i, what), () -> m.promiseOf(i, what));
                break;
            case 1:
                compare(run, "debt " + a + " " + b, () -> x.debt(a, b), () -> m.debt(a, b));
                break;
            case 2:
                compare(run, "net " + a, () -> x.net(a), () -> m.net(a));
                break;
            case 3: case 4:
                int place = random.nextInt(9) - 1;
                compare(run, "ring " + r + " " + place, () -> x.ring(r, place), () -> m.ring(r, place));
                break;
            case 5:
                compare(run, "room " + r, () -> x.room(r), () -> m.room(r));
                break;
            case 6:
                compare(run, "value " + what, () -> x.value(what), () -> m.value(what));
                break;
            case 7:
                compare(run, "saving " + r, () -> x.saving(r), () -> m.saving(r));
                break;
            case 8:
                compare(run, "bestRing", x::bestRing, m::bestRing);
                break;
            case 9:
                compare(run, "costByRings", x::costByRings, m::costByRings);
                break;
            case 10:
                compare(run, "leastCost", x::leastCost, m::leastCost);
                break;
            case 11:
                compare(run, "ringsWithout " + i, () -> x.ringsWithout(i), () -> m.ringsWithout(i));
                compare(run, "keyPromise", x::keyPromise, m::keyPromise);
                break;
            default:
                compare(run, "mutual " + a, () -> x.mutual(a), () -> m.mutual(a));
        }
    }

    private static void text(int run, Random random, PledgeRings x, Model m) {
        if (random.nextInt(4) > 0) {
            compare(run, "clearText", x::clearText, m::clearText);
        }
        String text = someText(random, m);
        for (int k = 0; k < text.length() && k < 100; k++) {
            int value = text.charAt(k);
            compare(run, "append " + value, () -> x.append(value), () -> m.append(value));
        }
        compare(run, "carryOut of " + m.text, x::carryOut, m::carryOut);
        compare(run, "digest behind " + m.text, x::digest, m::digest);
    }

    private static String someText(Random random, Model m) {
        StringBuilder text = new StringBuilder();
        int orders = random.nextInt(5);
        for (int n = 0; n < orders; n++) {
            text.append(someOrder(random, m));
        }
        if (random.nextInt(3) == 0 && text.length() > 0) {
            spoil(random, text);
        }
        return text.toString();
    }

    private static String someOrder(Random random, Model m) {
        switch (random.nextInt(8)) {
            case 0: return "a;";
            case 1: return "b;";
            case 2: return "x" + promise(random, m) + ";";
            case 3: return "y" + (random.nextBoolean() ? "0" : "") + random.nextInt(10) + ";";
            default:
                String zeros = random.nextInt(5) == 0 ? "00" : "";
                int amount = random.nextInt(8) == 0 ? 995 + random.nextInt(10) : 1 + random.nextInt(12);
                return "p" + random.nextInt(m.parties) + random.nextInt(m.parties) + ":" + zeros + amount
                        + "," + (1 + random.nextInt(9)) + ";";
        }
    }

    private static void spoil(Random random, StringBuilder text) {
        String signs = "pxyab0123456789:,; \u0000\u007f/";
        int at = random.nextInt(text.length());
        switch (random.nextInt(4)) {
            case 0: text.deleteCharAt(at); break;
            case 1: text.insert(at, signs.charAt(random.nextInt(signs.length()))); break;
            case 2: text.setLength(at); break;
            default: text.setCharAt(at, signs.charAt(random.nextInt(signs.length())));
        }
    }

    private static final class Pledge {
        int from, to, amount, rate, first, paid, released;
        boolean disputed;

        Pledge copy() {
            Pledge other = new Pledge();
            other.from = from;
            other.to = to;
            other.amount = amount;
            other.rate = rate;
            other.first = first;
            other.paid = paid;
            other.released = released;
            other.disputed = disputed;
            return other;
        }
    }

    private static final class Model {
        int parties = 4;
        List<Pledge> promises = new ArrayList<>();
        int payments, releases, discharges;
        String text = "";
        List<Model> saved = new ArrayList<>();

        Model copy() {
            Model other = new Model();
            other.take(this);
            return other;
        }

        void take(Model other) {
            parties = other.parties;
            promises = new ArrayList<>();
            for (Pledge p : other.promises) {
                promises.add(p.copy());
            }
            payments = other.payments;
            releases = other.releases;
            discharges = other.discharges;
        }

        void save() {
            saved.add(copy());
            if (saved.size() > 4) {
                saved.remove(0);
            }
        }

        void needParty(int party) {
            if (party < 0 || party >= parties) {
                throw new IndexOutOfBoundsException();
            }
        }

        Pledge needPromise(int promise) {
            if (promise < 0 || promise >= promises.size()) {
                throw new IndexOutOfBoundsException();
            }
            return promises.get(promise);
        }

        List<Integer> needRing(int ring) {
            List<List<Integer>> all = rings();
            if (ring < 0 || ring >= all.size()) {
                throw new IndexOutOfBoundsException();
            }
            return all.get(ring);
        }

        static void needRange(int value, int least, int most) {
            if (value < least || value > most) {
                throw new IllegalArgumentException();
            }
        }

        static void needState(boolean holds) {
            if (!holds) {
                throw new IllegalStateException();
            }
        }

        int begin(int newParties) {
            needRange(newParties, 2, 7);
            save();
            int before = promises.size();
            Model fresh = new Model();
            fresh.parties = newParties;
            take(fresh);
            return before;
        }

        int promise(int from, int to, int amount, int rate) {
            needParty(from);
            needParty(to);
            needRange(amount, 1, 1000);
            needRange(rate, 1, 9);
            if (from == to) {
                throw new IllegalArgumentException();
            }
            needState(promises.size() < 40);
            save();
            return make(from, to, amount, rate);
        }

        int make(int from, int to, int amount, int rate) {
            Pledge p = new Pledge();
            p.from = from;
            p.to = to;
            p.amount = amount;
            p.first = amount;
            p.rate = rate;
            promises.add(p);
            return promises.size() - 1;
        }

        int pay(int promise, int amount) {
            Pledge p = needPromise(promise);
            needRange(amount, 1, Integer.MAX_VALUE);
            needState(amount <= p.amount);
            save();
            p.amount -= amount;
            p.paid += amount;
            payments += amount;
            return p.amount;
        }

        int dispute(int promise) {
            Pledge p = needPromise(promise);
            needState(!p.disputed && p.amount > 0);
            save();
            int before = rings().size();
            p.disputed = true;
            return before - rings().size();
        }

        int settle(int promise) {
            Pledge p = needPromise(promise);
            needState(p.disputed);
            save();
            p.disputed = false;
            return rings().size();
        }

        int discharge(int ring, int amount) {
            List<Integer> row = needRing(ring);
            needRange(amount, 1, Integer.MAX_VALUE);
            needState(amount <= roomOf(row));
            save();
            return release(row, amount);
        }

        int dischargeBest() {
            needState(bestRing() >= 0);
            save();
            return releaseBest();
        }

        int releaseBest() {
            List<Integer> row = rings().get(bestRing());
            return release(row, roomOf(row));
        }

        int dischargeAll() {
            save();
            return releaseAll();
        }

        int releaseAll() {
            int done = 0;
            while (!rings().isEmpty()) {
                releaseBest();
                done++;
            }
            return done;
        }

        /** Takes one after the other, one unit of each debt at a time, from the promise that comes first. */
        int release(List<Integer> row, int amount) {
            int before = value(5);
            for (int k = 0; k < row.size(); k++) {
                int from = row.get(k);
                int to = row.get((k + 1) % row.size());
                for (int unit = 0; unit < amount; unit++) {
                    Pledge first = null;
                    for (Pledge p : promises) {
                        boolean fits = p.from == from && p.to == to && !p.disputed && p.amount > 0;
                        if (fits && (first == null || p.rate > first.rate)) {
                            first = p;
                        }
                    }
                    first.amount--;
                    first.released++;
                    releases++;
                }
            }
            discharges++;
            return before - value(5);
        }

        int promiseOf(int promise, int what) {
            Pledge p = needPromise(promise);
            needRange(what, 0, 7);
            int[] all = {p.from, p.to, p.amount, p.rate, p.disputed ? 1 : 0, p.first, p.paid, p.released};
            return all[what];
        }

        int debt(int from, int to) {
            needParty(from);
            needParty(to);
            return promises.stream().filter(p -> p.from == from && p.to == to && !p.disputed).mapToInt(p -> p.amount).sum();
        }

        int net(int party) {
            needParty(party);
            return promises.stream().mapToInt(p -> p.to == party ? p.amount : p.from == party ? -p.amount : 0).sum();
        }

        List<List<Integer>> rings() {
            int[][] debts = new int[parties][parties];
            for (Pledge p : promises) {
                debts[p.from][p.to] += p.disputed ? 0 : p.amount;
            }
            List<List<Integer>> all = new ArrayList<>();
            collect(debts, new ArrayList<>(), all);
            all.sort(Model::order);
            return all;
        }

        private void collect(int[][] debts, List<Integer> row, List<List<Integer>> all) {
            if (row.size() >= 2 && debts[row.get(row.size() - 1)][row.get(0)] > 0) {
                all.add(new ArrayList<>(row));
            }
            for (int party = parties - 1; party >= 0; party--) {
                boolean goesOn = row.isEmpty()
                        || party > row.get(0) && !row.contains(party) && debts[row.get(row.size() - 1)][party] > 0;
                if (goesOn) {
                    row.add(party);
                    collect(debts, row, all);
                    row.remove(row.size() - 1);
                }
            }
        }

        private static int order(List<Integer> a, List<Integer> b) {
            for (int k = 0; k < a.size() && k < b.size(); k++) {
                if (!a.get(k).equals(b.get(k))) {
                    return a.get(k) - b.get(k);
                }
            }
            return a.size() - b.size();
        }

        int roomOf(List<Integer> row) {
            int least = Integer.MAX_VALUE;
            for (int k = 0; k < row.size(); k++) {
                least = Math.min(least, debt(row.get(k), row.get((k + 1) % row.size())));
            }
            return least;
        }

        int ring(int ring, int place) {
            List<Integer> row = needRing(ring);
            needRange(place, 0, 6);
            return place < row.size() ? row.get(place) : -1;
        }

        int room(int ring) {
            return roomOf(needRing(ring));
        }

        int value(int what) {
            needRange(what, 0, 10);
            int open = 0, disputed = 0, sum = 0, cost = 0;
            for (Pledge p : promises) {
                open += p.amount > 0 ? 1 : 0;
                disputed += p.disputed ? 1 : 0;
                sum += p.amount;
                cost += p.amount * p.rate;
            }
            int gains = 0;
            for (int party = 0; party < parties; party++) {
                gains += Math.max(0, net(party));
            }
            int rings = what == 6 ? rings().size() : 0;
            int[] all = {parties, promises.size(), open, disputed, sum, cost, rings, payments, releases, discharges, gains};
            return all[what];
        }

        int saving(int ring) {
            return savingOf(needRing(ring));
        }

        /** What a ring saves, from the rates of the units that are released first. */
        int savingOf(List<Integer> row) {
            int room = roomOf(row);
            int sum = 0;
            for (int k = 0; k < row.size(); k++) {
                int from = row.get(k);
                int to = row.get((k + 1) % row.size());
                int left = room;
                for (int rate = 9; rate >= 1; rate--) {
                    for (Pledge p : promises) {
                        if (p.from == from && p.to == to && !p.disputed && p.rate == rate) {
                            int part = Math.min(left, p.amount);
                            sum += part * rate;
                            left -= part;
                        }
                    }
                }
            }
            return sum;
        }

        int bestRing() {
            List<List<Integer>> all = rings();
            int best = -1;
            int most = -1;
            for (int k = 0; k < all.size(); k++) {
                int saved = savingOf(all.get(k));
                if (saved > most) {
                    most = saved;
                    best = k;
                }
            }
            return best;
        }

        int costByRings() {
            Model other = copy();
            other.releaseAll();
            return other.value(5);
        }

        /** Releases around whatever lessens the cost, and takes back, until no way round does so. */
        int leastCost() {
            int n = promises.size();
            int[] released = new int[n];
            while (true) {
                int[] way = gainfulWay(released);
                if (way == null) {
                    break;
                }
                int part = Integer.MAX_VALUE;
                for (int step : way) {
                    int i = step / 2;
                    part = Math.min(part, step % 2 == 0 ? promises.get(i).amount - released[i] : released[i]);
                }
                for (int step : way) {
                    released[step / 2] += step % 2 == 0 ? part : -part;
                }
            }
            int cost = 0;
            for (int i = 0; i < n; i++) {
                cost += (promises.get(i).amount - released[i]) * promises.get(i).rate;
            }
            return cost;
        }

        /** A way round with a gain above 0: steps 2 * i along promise i, 2 * i + 1 back along it; null if there is none. */
        private int[] gainfulWay(int[] released) {
            int n = promises.size();
            int[] gain = new int[parties];
            int[] by = new int[parties];
            Arrays.fill(by, -1);
            int last = -1;
            for (int pass = 0; pass <= parties; pass++) {
                last = -1;
                for (int step = 0; step < 2 * n; step++) {
                    Pledge p = promises.get(step / 2);
                    boolean back = step % 2 == 1;
                    boolean fits = !p.disputed && (back ? released[step / 2] > 0 : released[step / 2] < p.amount);
                    int from = back ? p.to : p.from;
                    int to = back ? p.from : p.to;
                    int rate = back ? -p.rate : p.rate;
                    if (fits && gain[from] + rate > gain[to]) {
                        gain[to] = gain[from] + rate;
                        by[to] = step;
                        last = to;
                    }
                }
            }
            if (last < 0) {
                return null;
            }
            for (int k = 0; k < parties; k++) {
                last = start(by[last]);
            }
            List<Integer> steps = new ArrayList<>();
            int at = last;
            do {
                steps.add(by[at]);
                at = start(by[at]);
            } while (at != last);
            return steps.stream().mapToInt(Integer::intValue).toArray();
        }

        private int start(int step) {
            Pledge p = promises.get(step / 2);
            return step % 2 == 1 ? p.to : p.from;
        }

        int ringsWithout(int promise) {
            needPromise(promise);
            Model other = copy();
            other.promises.remove(promise);
            return other.rings().size();
        }

        int keyPromise() {
            int key = -1;
            for (int i = 0; i < promises.size(); i++) {
                Pledge p = promises.get(i);
                if (p.amount > 0 && !p.disputed && (key < 0 || ringsWithout(i) < ringsWithout(key))) {
                    key = i;
                }
            }
            return key;
        }

        int mutual(int party) {
            needParty(party);
            int sum = 0;
            for (int other = 0; other < parties; other++) {
                sum += other == party ? 0 : Math.min(debt(party, other), debt(other, party));
            }
            return sum;
        }

        int append(int value) {
            needRange(value, 0, 127);
            needState(text.length() < 100);
            text += (char) value;
            return text.length();
        }

        int clearText() {
            int before = text.length();
            text = "";
            return before;
        }

        private static final Pattern TEXT =
                Pattern.compile("(p[0-6][0-6]:[0-9]{1,4},[1-9];|[xy][0-9]{1,2};|[ab];)*", Pattern.DOTALL);
        private static final Pattern AMOUNT = Pattern.compile("p[0-6][0-6]:([0-9]{1,4})(?![0-9])");

        /** The first byte with which no text can go on, unless a number is found out of its range before or there. */
        int syntaxError() {
            int error = -1;
            for (int k = 1; k <= text.length() && error < 0; k++) {
                Matcher matcher = TEXT.matcher(text.substring(0, k));
                if (!matcher.matches() && !matcher.hitEnd()) {
                    error = k - 1;
                }
            }
            if (error < 0 && !TEXT.matcher(text).matches()) {
                error = text.length();
            }
            Matcher amounts = AMOUNT.matcher(text);
            while (amounts.find()) {
                int amount = Integer.parseInt(amounts.group(1));
                boolean isThere = error < 0 || amounts.end(1) <= error;
                if (isThere && (amount < 1 || amount > 1000)) {
                    return amounts.start(1);
                }
            }
            return error;
        }

        int carryOut() {
            int error = syntaxError();
            if (error >= 0) {
                return -10 - error;
            }
            save();
            int done = 0;
            for (String order : text.split(";")) {
                if (order.isEmpty() || !carryOutOne(order)) {
                    break;
                }
                done++;
            }
            return done;
        }

        /** Calls the very methods, without what they save. */
        private boolean carryOutOne(String order) {
            List<Model> before = new ArrayList<>(saved);
            try {
                switch (order.charAt(0)) {
                    case 'p':
                        int colon = order.indexOf(':');
                        int comma = order.indexOf(',');
                        promise(order.charAt(1) - '0', order.charAt(2) - '0',
                                Integer.parseInt(order.substring(colon + 1, comma)), order.charAt(comma + 1) - '0');
                        break;
                    case 'x': dispute(Integer.parseInt(order.substring(1))); break;
                    case 'y': settle(Integer.parseInt(order.substring(1))); break;
                    case 'a': dischargeAll(); break;
                    default: dischargeBest();
                }
                return true;
            } catch (IllegalStateException | IllegalArgumentException | IndexOutOfBoundsException e) {
                return false;
            } finally {
                saved = before;
            }
        }

        int undo() {
            needState(!saved.isEmpty());
            take(saved.remove(saved.size() - 1));
            return saved.size();
        }

        long digest() {
            List<Integer> values = new ArrayList<>();
            values.add(text.length());
            for (int what = 0; what <= 10; what++) {
                values.add(value(what));
            }
            for (int i = 0; i < promises.size(); i++) {
                for (int what = 0; what <= 7; what++) {
                    values.add(promiseOf(i, what));
                }
            }
            for (int party = 0; party < parties; party++) {
                values.add(net(party));
                for (int other = 0; other < parties; other++) {
                    values.add(debt(party, other));
                }
            }
            values.add(bestRing());
            values.add(leastCost());
            values.add(saved.size());
            long hash = 3701;
            for (int value : values) {
                hash = 31 * hash + value;
            }
            return hash;
        }
    }
}
