/** Promises of payment between parties that are discharged around rings. */
public final class PledgeRings {
    /** There is no such thing. */
    public static final int NONE = -1;

    private static final int LEAST_PARTIES = 2;
    private static final int PARTIES_AT_FIRST = 4;
    private static final int MOST_PARTIES = 7;
    private static final int MOST_PROMISES = 40;
    private static final int MOST_AMOUNT = 1000;
    private static final int MOST_RATE = 9;
    private static final int MOST_SAVED = 4;
    private static final int MOST_TEXT = 100;
    private static final int MOST_BYTE = 127;
    private static final int VALUES = 11;
    private static final int VALUES_OF_PROMISE = 8;
    private static final int SYNTAX_ERROR = -10;
    private static final long DIGEST_START = 3701L;

    /** A debt is numbered by its pair of parties: who owes times MOST_PARTIES plus to whom. */
    private static final int PAIRS = MOST_PARTIES * MOST_PARTIES;

    private final Book book = new Book();
    private final Book trial = new Book();
    private final Rings rings = new Rings();
    private final Remainder remainder = new Remainder();
    private final Orders orders = new Orders();
    private final Book[] saved = new Book[MOST_SAVED];
    private int savedCount;

    public PledgeRings() {
    }

    // ---- promises

    public int begin(int parties) throws IllegalArgumentException {
        if (parties < LEAST_PARTIES || parties > MOST_PARTIES) {
            throw new IllegalArgumentException("parties are 2 to 7");
        }
        save();
        int before = book.count;
        book.restart(parties);
        return before;
    }

    public int promise(int from, int to, int amount, int rate)
            throws IndexOutOfBoundsException, IllegalArgumentException, IllegalStateException {
        if (!book.hasParty(from) || !book.hasParty(to)) {
            throw new IndexOutOfBoundsException("no such party");
        }
        if (!canBePromised(from, to, amount, rate)) {
            throw new IllegalArgumentException("no such promise can be made");
        }
        if (book.isFull()) {
            throw new IllegalStateException("there are 40 promises");
        }
        save();
        return book.add(from, to, amount, rate);
    }

    public int pay(int promise, int amount)
            throws IndexOutOfBoundsException, IllegalArgumentException, IllegalStateException {
        if (!book.holds(promise)) {
            throw new IndexOutOfBoundsException("no such promise");
        }
        if (amount < 1) {
            throw new IllegalArgumentException("a payment is 1 or more");
        }
        if (amount > book.amount[promise]) {
            throw new IllegalStateException("the promise is of less");
        }
        save();
        book.payPart(promise, amount);
        return book.amount[promise];
    }

    public int dispute(int promise) throws IndexOutOfBoundsException, IllegalStateException {
        if (!book.holds(promise)) {
            throw new IndexOutOfBoundsException("no such promise");
        }
        if (!book.canBeDisputed(promise)) {
            throw new IllegalStateException("the promise is disputed or not open");
        }
        save();
        int before = countRings();
        book.disputed[promise] = true;
        return before - countRings();
    }

    public int settle(int promise) throws IndexOutOfBoundsException, IllegalStateException {
        if (!book.holds(promise)) {
            throw new IndexOutOfBoundsException("no such promise");
        }
        if (!book.disputed[promise]) {
            throw new IllegalStateException("the promise is not disputed");
        }
        save();
        book.disputed[promise] = false;
        return countRings();
    }

    public int discharge(int ring, int amount)
            throws IndexOutOfBoundsException, IllegalArgumentException, IllegalStateException {
        if (ring < 0 || ring >= countRings()) {
            throw new IndexOutOfBoundsException("no such ring");
        }
        if (amount < 1) {
            throw new IllegalArgumentException("a discharge is by 1 or more");
        }
        if (amount > rings.roomAt(ring)) {
            throw new IllegalStateException("the ring has less room");
        }
        save();
        return rings.releaseAround(book, ring, amount);
    }

    public int dischargeBest() throws IllegalStateException {
        if (countRings() == 0) {
            throw new IllegalStateException("there is no ring");
        }
        save();
        return rings.releaseBest(book);
    }

    public int dischargeAll() {
        save();
        return rings.releaseAll(book);
    }

    // ---- values

    public int promiseOf(int promise, int what) throws IndexOutOfBoundsException, IllegalArgumentException {
        if (!book.holds(promise)) {
            throw new IndexOutOfBoundsException("no such promise");
        }
        switch (what) {
            case 0: return book.from[promise];
            case 1: return book.to[promise];
            case 2: return book.amount[promise];
            case 3: return book.rate[promise];
            case 4: return book.disputed[promise] ? 1 : 0;
            case 5: return book.amountAtFirst[promise];
            case 6: return book.paid[promise];
            case 7: return book.released[promise];
            default: throw new IllegalArgumentException("what is 0 to 7");
        }
    }

    public int debt(int from, int to) throws IndexOutOfBoundsException {
        if (!book.hasParty(from) || !book.hasParty(to)) {
            throw new IndexOutOfBoundsException("no such party");
        }
        return book.debtBetween(from, to);
    }

    public int net(int party) throws IndexOutOfBoundsException {
        if (!book.hasParty(party)) {
            throw new IndexOutOfBoundsException("no such party");
        }
        return book.netOf(party);
    }

    public int ring(int ring, int place) throws IndexOutOfBoundsException, IllegalArgumentException {
        if (ring < 0 || ring >= countRings()) {
            throw new IndexOutOfBoundsException("no such ring");
        }
        if (place < 0 || place >= MOST_PARTIES) {
            throw new IllegalArgumentException("place is 0 to 6");
        }
        return rings.partyAt(ring, place);
    }

    public int room(int ring) throws IndexOutOfBoundsException {
        if (ring < 0 || ring >= countRings()) {
            throw new IndexOutOfBoundsException("no such ring");
        }
        return rings.roomAt(ring);
    }

    public int value(int what) throws IllegalArgumentException {
        switch (what) {
            case 0: return book.parties;
            case 1: return book.count;
            case 2: return book.countOpen();
            case 3: return book.countDisputed();
            case 4: return book.sumOfAmounts();
            case 5: return book.costOfAll();
            case 6: return countRings();
            case 7: return book.payments;
            case 8: return book.releases;
            case 9: return book.discharges;
            case 10: return book.sumOfGains();
            default: throw new IllegalArgumentException("what is 0 to 10");
        }
    }

    // ---- what if

    public int saving(int ring) throws IndexOutOfBoundsException {
        if (ring < 0 || ring >= countRings()) {
            throw new IndexOutOfBoundsException("no such ring");
        }
        return rings.savingAt(book, ring, rings.roomAt(ring));
    }

    public int bestRing() {
        rings.find(book);
        return rings.best(book);
    }

    public int costByRings() {
        trial.copyFrom(book);
        rings.releaseAll(trial);
        return trial.costOfAll();
    }

    public int leastCost() {
        return remainder.leastCostOf(book);
    }

    public int ringsWithout(int promise) throws IndexOutOfBoundsException {
        if (!book.holds(promise)) {
            throw new IndexOutOfBoundsException("no such promise");
        }
        rings.find(book);
        rings.countThrough();
        return rings.sizeWithout(book, promise);
    }

    public int keyPromise() {
        rings.find(book);
        rings.countThrough();
        int key = NONE;
        int fewest = 0;
        for (int i = 0; i < book.count; i++) {
            if (book.isOwing(i)) {
                int left = rings.sizeWithout(book, i);
                if (key == NONE || left < fewest) {
                    key = i;
                    fewest = left;
                }
            }
        }
        return key;
    }

    public int mutual(int party) throws IndexOutOfBoundsException {
        if (!book.hasParty(party)) {
            throw new IndexOutOfBoundsException("no such party");
        }
        int sum = 0;
        for (int other = 0; other < book.parties; other++) {
            sum += Math.min(book.debtBetween(party, other), book.debtBetween(other, party));
        }
        return sum;
    }

    // ---- text

    public int append(int value) throws IllegalArgumentException, IllegalStateException {
        if (value < 0 || value > MOST_BYTE) {
            throw new IllegalArgumentException("a byte is 0 to 127");
        }
        if (orders.isFull()) {
            throw new IllegalStateException("the text has 100 bytes");
        }
        orders.add(value);
        return orders.length;
    }

    public int clearText() {
        int before = orders.length;
        orders.clear();
        return before;
    }

    public int carryOut() {
        int error = orders.syntaxError();
        if (error != NONE) {
            return SYNTAX_ERROR - error;
        }
        save();
        orders.rewind();
        int done = 0;
        while (done < MOST_TEXT && orders.readNext() && carryOutOrder()) {
            done++;
        }
        return done;
    }

    // ---- state

    public int undo() throws IllegalStateException {
        Book last = savedCount > 0 && savedCount <= MOST_SAVED ? saved[savedCount - 1] : null;
        if (last == null) {
            throw new IllegalStateException("there is no saved state");
        }
        book.copyFrom(last);
        savedCount--;
        return savedCount;
    }

    public long digest() {
        long hash = 31 * DIGEST_START + orders.length;
        for (int what = 0; what < VALUES; what++) {
            hash = 31 * hash + value(what);
        }
        for (int i = 0; i < book.count; i++) {
            for (int what = 0; what < VALUES_OF_PROMISE; what++) {
                hash = 31 * hash + promiseOf(i, what);
            }
        }
        for (int party = 0; party < book.parties; party++) {
            hash = 31 * hash + book.netOf(party);
            for (int other = 0; other < book.parties; other++) {
                hash = 31 * hash + book.debtBetween(party, other);
            }
        }
        hash = 31 * hash + bestRing();
        hash = 31 * hash + remainder.leastCostOf(book);
        return 31 * hash + savedCount;
    }

    private static boolean canBePromised(int from, int to, int amount, int rate) {
        return amount >= 1 && amount <= MOST_AMOUNT && rate >= 1 && rate <= MOST_RATE && from != to;
    }

    private static boolean isParty(int party) {
        return party >= 0 && party < MOST_PARTIES;
    }

    private static boolean isPair(int pair) {
        return pair >= 0 && pair < PAIRS;
    }

    private static boolean isSlot(int promise) {
        return promise >= 0 && promise < MOST_PROMISES;
    }

    private int countRings() {
        rings.find(book);
        return rings.size;
    }

    private void save() {
        if (savedCount >= MOST_SAVED) {
            dropOldest();
        }
        Book kept = saved[savedCount];
        if (kept == null) {
            kept = new Book();
            saved[savedCount] = kept;
        }
        kept.copyFrom(book);
        savedCount++;
    }

    /** Moves the oldest book behind the others, so that it is written again instead of a new one. */
    private void dropOldest() {
        Book oldest = saved[0];
        for (int i = 1; i < MOST_SAVED; i++) {
            saved[i - 1] = saved[i];
        }
        saved[MOST_SAVED - 1] = oldest;
        savedCount = MOST_SAVED - 1;
    }

    /** Carries out the order that was read last; answers false if it would throw an exception. */
    private boolean carryOutOrder() {
        switch (orders.sign) {
            case 'p': return makeOrdered();
            case 'x': return disputeOrdered(orders.number);
            case 'y': return settleOrdered(orders.number);
            case 'b':
                rings.find(book);
                return rings.releaseBest(book) > 0;
            case 'a':
                rings.releaseAll(book);
                return true;
            default: return false;
        }
    }

    private boolean makeOrdered() {
        if (!book.hasParty(orders.from) || !book.hasParty(orders.to) || book.isFull()
                || !canBePromised(orders.from, orders.to, orders.amount, orders.rate)) {
            return false;
        }
        book.add(orders.from, orders.to, orders.amount, orders.rate);
        return true;
    }

    private boolean disputeOrdered(int promise) {
        if (!book.holds(promise) || !book.canBeDisputed(promise)) {
            return false;
        }
        book.disputed[promise] = true;
        return true;
    }

    private boolean settleOrdered(int promise) {
        if (!book.holds(promise) || !book.disputed[promise]) {
            return false;
        }
        book.disputed[promise] = false;
        return true;
    }

    /** The parties, the promises and the sums over them: all that undo brings back. */
    private static final class Book {
        private int parties = PARTIES_AT_FIRST;
        private int count;
        private int payments;
        private int releases;
        private int discharges;
        private final int[] from = new int[MOST_PROMISES];
        private final int[] to = new int[MOST_PROMISES];
        private final int[] amount = new int[MOST_PROMISES];
        private final int[] rate = new int[MOST_PROMISES];
        private final int[] amountAtFirst = new int[MOST_PROMISES];
        private final int[] paid = new int[MOST_PROMISES];
        private final int[] released = new int[MOST_PROMISES];
        private final boolean[] disputed = new boolean[MOST_PROMISES];

        void restart(int newParties) {
            parties = newParties;
            count = 0;
            payments = 0;
            releases = 0;
            discharges = 0;
        }

        void copyFrom(Book other) {
            parties = other.parties;
            count = other.count;
            payments = other.payments;
            releases = other.releases;
            discharges = other.discharges;
            System.arraycopy(other.from, 0, from, 0, MOST_PROMISES);
            System.arraycopy(other.to, 0, to, 0, MOST_PROMISES);
            System.arraycopy(other.amount, 0, amount, 0, MOST_PROMISES);
            System.arraycopy(other.rate, 0, rate, 0, MOST_PROMISES);
            System.arraycopy(other.amountAtFirst, 0, amountAtFirst, 0, MOST_PROMISES);
            System.arraycopy(other.paid, 0, paid, 0, MOST_PROMISES);
            System.arraycopy(other.released, 0, released, 0, MOST_PROMISES);
            for (int i = 0; i < MOST_PROMISES; i++) {
                disputed[i] = other.disputed[i];
            }
        }

        boolean hasParty(int party) {
            return party >= 0 && party < parties;
        }

        boolean holds(int promise) {
            return promise >= 0 && promise < count;
        }

        boolean isFull() {
            return count >= MOST_PROMISES;
        }

        int add(int owing, int owed, int newAmount, int newRate) {
            int promise = count;
            if (!isSlot(promise)) {
                return NONE;
            }
            from[promise] = owing;
            to[promise] = owed;
            amount[promise] = newAmount;
            rate[promise] = newRate;
            amountAtFirst[promise] = newAmount;
            paid[promise] = 0;
            released[promise] = 0;
            disputed[promise] = false;
            count++;
            return promise;
        }

        void payPart(int promise, int part) {
            if (holds(promise)) {
                amount[promise] -= part;
                paid[promise] += part;
                payments += part;
            }
        }

        void releasePart(int promise, int part) {
            if (holds(promise)) {
                amount[promise] -= part;
                released[promise] += part;
                releases += part;
            }
        }

        boolean canBeDisputed(int promise) {
            return holds(promise) && isOwing(promise);
        }

        /** Tells whether a promise is a part of a debt: open and not disputed. */
        boolean isOwing(int promise) {
            return amount[promise] > 0 && !disputed[promise];
        }

        int pairOf(int promise) {
            return from[promise] * MOST_PARTIES + to[promise];
        }

        int costOf(int promise) {
            return amount[promise] * rate[promise];
        }

        int debtBetween(int owing, int owed) {
            int sum = 0;
            for (int i = 0; i < count; i++) {
                if (from[i] == owing && to[i] == owed && !disputed[i]) {
                    sum += amount[i];
                }
            }
            return sum;
        }

        int netOf(int party) {
            int sum = 0;
            for (int i = 0; i < count; i++) {
                if (to[i] == party) {
                    sum += amount[i];
                }
                if (from[i] == party) {
                    sum -= amount[i];
                }
            }
            return sum;
        }

        int sumOfGains() {
            int sum = 0;
            for (int party = 0; party < parties; party++) {
                sum += Math.max(0, netOf(party));
            }
            return sum;
        }

        int countOpen() {
            int open = 0;
            for (int i = 0; i < count; i++) {
                if (amount[i] > 0) {
                    open++;
                }
            }
            return open;
        }

        int countDisputed() {
            int found = 0;
            for (int i = 0; i < count; i++) {
                if (disputed[i]) {
                    found++;
                }
            }
            return found;
        }

        int sumOfAmounts() {
            int sum = 0;
            for (int i = 0; i < count; i++) {
                sum += amount[i];
            }
            return sum;
        }

        int costOfAll() {
            int cost = 0;
            for (int i = 0; i < count; i++) {
                cost += costOf(i);
            }
            return cost;
        }
    }

    /** The debts of a book, each with its promises in the order in which they are released. */
    private static final class Debts {
        private final int[] sum = new int[PAIRS];
        private final int[] firstOf = new int[PAIRS];
        private final int[] nextOf = new int[MOST_PROMISES];

        void read(Book book) {
            for (int pair = 0; pair < PAIRS; pair++) {
                sum[pair] = 0;
                firstOf[pair] = NONE;
            }
            // Each promise goes before those already there, so the last to be released comes first here.
            for (int rate = 1; rate <= MOST_RATE; rate++) {
                for (int i = book.count - 1; i >= 0; i--) {
                    if (book.rate[i] == rate && book.isOwing(i)) {
                        putFirst(book.pairOf(i), i, book.amount[i]);
                    }
                }
            }
        }

        private void putFirst(int pair, int promise, int amount) {
            if (isPair(pair) && isSlot(promise)) {
                sum[pair] += amount;
                nextOf[promise] = firstOf[pair];
                firstOf[pair] = promise;
            }
        }

        int sumOf(int pair) {
            return isPair(pair) ? sum[pair] : 0;
        }

        /** Answers what a part of a debt costs that is released first; of no debt it is 0. */
        int costOfPart(Book book, int pair, int part) {
            int cost = 0;
            int left = part;
            int i = isPair(pair) ? firstOf[pair] : NONE;
            for (int n = 0; n < MOST_PROMISES && left > 0 && isSlot(i); n++) {
                int taken = Math.min(left, book.amount[i]);
                cost += taken * book.rate[i];
                left -= taken;
                i = nextOf[i];
            }
            return cost;
        }

        void releaseFrom(Book book, int pair, int part) {
            int left = part;
            int i = isPair(pair) ? firstOf[pair] : NONE;
            for (int n = 0; n < MOST_PROMISES && left > 0 && isSlot(i); n++) {
                int taken = Math.min(left, book.amount[i]);
                book.releasePart(i, taken);
                left -= taken;
                i = nextOf[i];
            }
        }
    }

    /** The rings of a book in their order, as they were when they were found last. */
    private static final class Rings {
        /** The rings of 2 to 7 parties if each one owed to each other one. */
        private static final int MOST_RINGS = 2365;
        /** A row holds a party in three bits a place; 7 is an empty place. */
        private static final int PLACE_BITS = 3;
        private static final int EMPTY_PLACE = 7;
        private static final int EMPTY_ROW = (1 << PLACE_BITS * MOST_PARTIES) - 1;

        private final Debts debts = new Debts();
        private final int[] rows = new int[MOST_RINGS];
        private final int[] through = new int[PAIRS];
        private int size;

        void find(Book book) {
            debts.read(book);
            size = 0;
            for (int first = 0; first < MOST_PARTIES; first++) {
                extend(this, rowWith(EMPTY_ROW, 0, first), 1 << first, first, 1);
            }
        }

        /** Adds all rings that begin with a row, in their order: the row itself comes before longer ones. */
        private static void extend(Rings rings, int row, int used, int last, int length) {
            int first = partyIn(row, 0);
            if (rings.debts.sumOf(last * MOST_PARTIES + first) > 0) {
                rings.addRow(row);
            }
            if (length >= MOST_PARTIES) {
                return;
            }
            for (int party = first + 1; party < MOST_PARTIES; party++) {
                if ((used >> party & 1) == 0 && rings.debts.sumOf(last * MOST_PARTIES + party) > 0) {
                    extend(rings, rowWith(row, length, party), used | 1 << party, party, length + 1);
                }
            }
        }

        private void addRow(int row) {
            if (size >= 0 && size < MOST_RINGS) {
                rows[size] = row;
                size++;
            }
        }

        private static int rowWith(int row, int place, int party) {
            int shift = PLACE_BITS * place;
            return row & ~(EMPTY_PLACE << shift) | party << shift;
        }

        private static int partyIn(int row, int place) {
            int party = place < MOST_PARTIES ? row >> PLACE_BITS * place & EMPTY_PLACE : EMPTY_PLACE;
            return party == EMPTY_PLACE ? NONE : party;
        }

        /** Answers the debt from the party at a place to the next one; NONE behind the last party. */
        private static int pairIn(int row, int place) {
            int party = partyIn(row, place);
            if (party == NONE) {
                return NONE;
            }
            int next = partyIn(row, place + 1);
            return party * MOST_PARTIES + (next == NONE ? partyIn(row, 0) : next);
        }

        private int rowAt(int ring) {
            return ring >= 0 && ring < size && ring < MOST_RINGS ? rows[ring] : EMPTY_ROW;
        }

        int partyAt(int ring, int place) {
            return partyIn(rowAt(ring), place);
        }

        int roomAt(int ring) {
            int row = rowAt(ring);
            int room = debts.sumOf(pairIn(row, 0));
            for (int place = 1; place < MOST_PARTIES; place++) {
                int pair = pairIn(row, place);
                if (pair != NONE) {
                    room = Math.min(room, debts.sumOf(pair));
                }
            }
            return room;
        }

        int savingAt(Book book, int ring, int part) {
            int row = rowAt(ring);
            int cost = 0;
            for (int place = 0; place < MOST_PARTIES; place++) {
                cost += debts.costOfPart(book, pairIn(row, place), part);
            }
            return cost;
        }

        int best(Book book) {
            int best = NONE;
            int most = 0;
            for (int ring = 0; ring < size; ring++) {
                int cost = savingAt(book, ring, roomAt(ring));
                if (cost > most) {
                    best = ring;
                    most = cost;
                }
            }
            return best;
        }

        /** Discharges a ring; the rings that are found here are of the state before it. */
        int releaseAround(Book book, int ring, int part) {
            int cost = savingAt(book, ring, part);
            int row = rowAt(ring);
            for (int place = 0; place < MOST_PARTIES; place++) {
                debts.releaseFrom(book, pairIn(row, place), part);
            }
            book.discharges++;
            return cost;
        }

        /** Discharges the best ring; answers its saving, and 0 if there is no ring. */
        int releaseBest(Book book) {
            int best = best(book);
            return best == NONE ? 0 : releaseAround(book, best, roomAt(best));
        }

        int releaseAll(Book book) {
            int done = 0;
            find(book);
            int best = best(book);
            // A discharge by the room ends a debt at least, so there are no more of them than pairs.
            while (done < PAIRS && best != NONE) {
                releaseAround(book, best, roomAt(best));
                done++;
                find(book);
                best = best(book);
            }
            return done;
        }

        void countThrough() {
            for (int pair = 0; pair < PAIRS; pair++) {
                through[pair] = 0;
            }
            for (int ring = 0; ring < size; ring++) {
                int row = rowAt(ring);
                for (int place = 0; place < MOST_PARTIES; place++) {
                    int pair = pairIn(row, place);
                    if (isPair(pair)) {
                        through[pair]++;
                    }
                }
            }
        }

        /** Without a promise just those rings fall that go through a debt that it alone makes up. */
        int sizeWithout(Book book, int promise) {
            if (!book.holds(promise) || !book.isOwing(promise)) {
                return size;
            }
            int pair = book.pairOf(promise);
            boolean isAlone = debts.sumOf(pair) == book.amount[promise];
            return isAlone && isPair(pair) ? size - through[pair] : size;
        }
    }

    /**
     * What stays of a book at the least cost: a flow along the promises that are not disputed, from
     * the parties that owe more than they are owed, by the cheapest ways first.
     */
    private static final class Remainder {
        /** Farther than any way through all parties at the greatest rate. */
        private static final int FAR = 1000000;
        private static final int MOST_WAYS = MOST_PROMISES * MOST_AMOUNT;

        private final int[] stays = new int[MOST_PROMISES];
        private final int[] excess = new int[MOST_PARTIES];
        private final int[] distance = new int[MOST_PARTIES];
        private final int[] reachedBy = new int[MOST_PARTIES];

        int leastCostOf(Book book) {
            start(book);
            int ways = 0;
            measure(book);
            int end = nearestEnd();
            // Each way takes 1 at least off the excess, and that is at most the sum of all amounts.
            while (ways < MOST_WAYS && end != NONE) {
                push(book, end);
                ways++;
                measure(book);
                end = nearestEnd();
            }
            return costThatStays(book);
        }

        private void start(Book book) {
            for (int party = 0; party < MOST_PARTIES; party++) {
                excess[party] = 0;
            }
            for (int i = 0; i < book.count; i++) {
                stays[i] = 0;
                if (book.isOwing(i)) {
                    addExcess(book.from[i], book.amount[i]);
                    addExcess(book.to[i], -book.amount[i]);
                }
            }
        }

        private void addExcess(int party, int more) {
            if (isParty(party)) {
                excess[party] += more;
            }
        }

        private void measure(Book book) {
            for (int party = 0; party < MOST_PARTIES; party++) {
                distance[party] = excess[party] > 0 ? 0 : FAR;
                reachedBy[party] = NONE;
            }
            boolean nearer = true;
            for (int pass = 0; pass < MOST_PARTIES && nearer; pass++) {
                nearer = false;
                for (int i = 0; i < book.count; i++) {
                    if (book.isOwing(i) && shorten(book, i)) {
                        nearer = true;
                    }
                }
            }
        }

        /** Goes along a promise that can still take some, or back along one that took some. */
        private boolean shorten(Book book, int promise) {
            boolean nearer = false;
            if (stays[promise] < book.amount[promise]) {
                nearer = reach(book.from[promise], book.to[promise], book.rate[promise], promise);
            }
            if (stays[promise] > 0 && reach(book.to[promise], book.from[promise], -book.rate[promise], promise)) {
                nearer = true;
            }
            return nearer;
        }

        private boolean reach(int before, int party, int cost, int promise) {
            if (!isParty(before) || !isParty(party) || distance[before] == FAR
                    || distance[before] + cost >= distance[party]) {
                return false;
            }
            distance[party] = distance[before] + cost;
            reachedBy[party] = promise;
            return true;
        }

        private int nearestEnd() {
            int end = NONE;
            int nearest = FAR;
            for (int party = 0; party < MOST_PARTIES; party++) {
                if (excess[party] < 0 && distance[party] < nearest) {
                    end = party;
                    nearest = distance[party];
                }
            }
            return end;
        }

        private void push(Book book, int end) {
            int origin = originOf(book, end);
            if (!isParty(origin)) {
                return;
            }
            int part = Math.min(excess[origin], widthTo(book, end));
            int party = end;
            for (int n = 0; n < MOST_PARTIES && promiseTo(party) != NONE; n++) {
                int promise = promiseTo(party);
                stays[promise] += book.to[promise] == party ? part : -part;
                party = before(book, party);
            }
            addExcess(origin, -part);
            addExcess(end, part);
        }

        private int originOf(Book book, int end) {
            int party = end;
            for (int n = 0; n < MOST_PARTIES && promiseTo(party) != NONE; n++) {
                party = before(book, party);
            }
            return party;
        }

        private int widthTo(Book book, int end) {
            int width = isParty(end) ? -excess[end] : 0;
            int party = end;
            for (int n = 0; n < MOST_PARTIES && promiseTo(party) != NONE; n++) {
                int promise = promiseTo(party);
                int taken = stays[promise];
                width = Math.min(width, book.to[promise] == party ? book.amount[promise] - taken : taken);
                party = before(book, party);
            }
            return width;
        }

        /** Answers the promise by which the way comes to a party; NONE where the way begins. */
        private int promiseTo(int party) {
            int promise = isParty(party) ? reachedBy[party] : NONE;
            return isSlot(promise) ? promise : NONE;
        }

        private int before(Book book, int party) {
            int promise = promiseTo(party);
            if (promise == NONE) {
                return NONE;
            }
            return book.to[promise] == party ? book.from[promise] : book.to[promise];
        }

        private int costThatStays(Book book) {
            int cost = 0;
            for (int i = 0; i < book.count; i++) {
                cost += book.disputed[i] ? book.costOf(i) : stays[i] * book.rate[i];
            }
            return cost;
        }
    }

    /** The text, and the order in it that was read last. */
    private static final class Orders {
        private static final int END = -1;
        private static final int MOST_PARTY_DIGIT = 6;
        private static final int AMOUNT_DIGITS = 4;
        private static final int NUMBER_DIGITS = 2;
        private static final int MOST_NUMBER = 99;

        private final int[] bytes = new int[MOST_TEXT];
        private int length;
        private int at;
        private int errorAt;
        private int sign;
        private int from;
        private int to;
        private int amount;
        private int rate;
        private int number;

        boolean isFull() {
            return length >= MOST_TEXT;
        }

        void add(int value) {
            if (length >= 0 && length < MOST_TEXT) {
                bytes[length] = value;
                length++;
            }
        }

        void clear() {
            length = 0;
        }

        void rewind() {
            at = 0;
            errorAt = NONE;
        }

        /** Answers the syntax error position; NONE if there is no error. */
        int syntaxError() {
            rewind();
            int read = 0;
            while (read < MOST_TEXT && readNext()) {
                read++;
            }
            return errorAt;
        }

        /** Reads the next order; answers false at the end of the text and at an error. */
        boolean readNext() {
            if (at >= length) {
                return false;
            }
            sign = peek();
            switch (sign) {
                case 'p':
                    at++;
                    return readPromise();
                case 'x':
                case 'y':
                    at++;
                    number = readNumber(NUMBER_DIGITS, 0, MOST_NUMBER);
                    return number != NONE && readSign(';');
                case 'a':
                case 'b':
                    at++;
                    return readSign(';');
                default:
                    return fail(at);
            }
        }

        private boolean readPromise() {
            from = readDigit(0, MOST_PARTY_DIGIT);
            if (from == NONE) {
                return false;
            }
            to = readDigit(0, MOST_PARTY_DIGIT);
            if (to == NONE || !readSign(':')) {
                return false;
            }
            amount = readNumber(AMOUNT_DIGITS, 1, MOST_AMOUNT);
            if (amount == NONE || !readSign(',')) {
                return false;
            }
            rate = readDigit(1, MOST_RATE);
            return rate != NONE && readSign(';');
        }

        private int readNumber(int digits, int least, int most) {
            int first = at;
            int value = 0;
            for (int n = 0; n < digits && isDigit(peek()); n++) {
                value = value * 10 + peek() - '0';
                at++;
            }
            // A digit too many is found before the range is looked at.
            if (at == first || isDigit(peek())) {
                fail(at);
                return NONE;
            }
            if (value < least || value > most) {
                fail(first);
                return NONE;
            }
            return value;
        }

        private int readDigit(int least, int most) {
            int value = peek() - '0';
            if (value < least || value > most) {
                fail(at);
                return NONE;
            }
            at++;
            return value;
        }

        private boolean readSign(int wanted) {
            if (peek() != wanted) {
                return fail(at);
            }
            at++;
            return true;
        }

        private int peek() {
            return at >= 0 && at < length && at < MOST_TEXT ? bytes[at] : END;
        }

        private static boolean isDigit(int value) {
            return value >= '0' && value <= '9';
        }

        private boolean fail(int position) {
            errorAt = position;
            return false;
        }
    }
}
