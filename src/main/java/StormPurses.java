/** Bottle caps as money on an island where storms shuffle purses. */
public final class StormPurses {
    public static final int NONE = -1;

    private static final int ISLANDERS = 8;
    private static final int COLOURS = 4;
    private static final int CAPS_AT_FIRST = 10;
    private static final int MOST_GIVEN = 99;
    private static final int MOST_WORTH = 9;
    private static final int MOST_UNFAIR = 9;
    private static final int MOST_SUM = 99;
    private static final int MOST_DAYS = 9;
    private static final int MOST_PROMISES = 8;
    private static final int LAST_DAY = 9999;
    private static final int MOST_SIGNS = 60;
    private static final int FIRST_SIGN = 33;
    private static final int LAST_SIGN = 126;
    private static final int SLOTS = 2;
    private static final int MOST_SAVED = 6;
    private static final int MOST_STORMS_AHEAD = 1000;

    private static final int TOO_FEW = 1;
    private static final int TOO_FEW_TOO = 2;
    private static final int UNFAIR = 3;

    private final Island island = new Island();
    private final History history = new History();
    private final Till till = new Till();
    private final Text text = new Text();
    private final Island[] slots = new Island[SLOTS];
    private final boolean[] slotHolds = new boolean[SLOTS];
    private final int[] holders = new int[ISLANDERS];

    public StormPurses() {
        for (int slot = 0; slot < SLOTS; slot++) {
            slots[slot] = new Island();
        }
    }

    // ---- storms, trades

    public int storm() throws IllegalStateException {
        if (!island.canStorm()) {
            throw new IllegalStateException("the last day has come");
        }
        history.push(island);
        return island.blow();
    }

    public int cross(int islander, int other) throws IndexOutOfBoundsException {
        needIslander(islander);
        needIslander(other);
        history.push(island);
        island.swapPaths(islander, other);
        return island.leadsTo(islander);
    }

    public int trade(int first, int colour, int many, int second, int colourToo, int manyToo)
            throws IndexOutOfBoundsException, IllegalArgumentException {
        needIslander(first);
        needColour(colour);
        needIslander(second);
        needColour(colourToo);
        needOthers(first, second);
        needRange(many, 0, MOST_GIVEN);
        needRange(manyToo, 0, MOST_GIVEN);
        history.push(island);
        int reason = reasonAgainst(first, colour, many, second, colourToo, manyToo);
        if (reason != 0) {
            island.refused++;
            return reason;
        }
        island.hand(first, second, colour, many);
        island.hand(second, first, colourToo, manyToo);
        island.trades++;
        return 0;
    }

    public int worth(int colour, int worth) throws IndexOutOfBoundsException, IllegalArgumentException {
        needColour(colour);
        needRange(worth, 1, MOST_WORTH);
        history.push(island);
        int before = island.worthOf(colour);
        island.makeWorth(colour, worth);
        return before;
    }

    public int set(int value) throws IllegalArgumentException {
        needRange(value, 0, MOST_UNFAIR);
        history.push(island);
        int before = island.unfair;
        island.unfair = value;
        return before;
    }

    // ---- promises

    public int promise(int from, int to, int sum, int days)
            throws IndexOutOfBoundsException, IllegalArgumentException {
        needIslander(from);
        needIslander(to);
        needOthers(from, to);
        needRange(sum, 1, MOST_SUM);
        needRange(days, 0, MOST_DAYS);
        history.push(island);
        return island.makePromise(from, to, sum, days);
    }

    public int fulfil(int number) throws IndexOutOfBoundsException {
        needPromise(number);
        history.push(island);
        return keepPromise(number);
    }

    // ---- texts, snapshots

    public int append(int code) throws IllegalArgumentException, IllegalStateException {
        needRange(code, FIRST_SIGN, LAST_SIGN);
        if (text.length >= MOST_SIGNS) {
            throw new IllegalStateException("the buffer is full");
        }
        text.put((char) code);
        return text.length;
    }

    public int clearBuffer() {
        int before = text.length;
        text.length = 0;
        return before;
    }

    public int firstError() {
        return text.errorAt();
    }

    public int run() throws IllegalArgumentException {
        if (!text.tellsOrders()) {
            throw new IllegalArgumentException("the buffer does not tell orders");
        }
        history.push(island);
        int done = 0;
        int at = 0;
        // Each order has a sign at least, so that no more orders can stand in the buffer than signs.
        while (done < MOST_SIGNS && at < text.length && isDone(at)) {
            done++;
            at = text.nextOrder(at);
        }
        text.length = 0;
        return done;
    }

    public int keep(int slot) throws IllegalArgumentException {
        needRange(slot, 0, SLOTS - 1);
        Island.copy(island, slots[slot]);
        slotHolds[slot] = true;
        return island.day;
    }

    public int goBack(int slot) throws IllegalArgumentException, IllegalStateException {
        needRange(slot, 0, SLOTS - 1);
        if (!slotHolds[slot]) {
            throw new IllegalStateException("there is no snapshot in the slot");
        }
        history.push(island);
        Island.copy(slots[slot], island);
        return island.day;
    }

    public int undo() throws IllegalStateException {
        if (history.size <= 0) {
            throw new IllegalStateException("there is no saved state");
        }
        history.pop(island);
        return history.size;
    }

    // ---- looks; nothing is changed

    public int caps(int islander, int colour) throws IndexOutOfBoundsException {
        needIslander(islander);
        needColour(colour);
        return island.capsOf(islander, colour);
    }

    public int islanderOf(int islander, int what) throws IndexOutOfBoundsException, IllegalArgumentException {
        needIslander(islander);
        switch (what) {
            case 0:
                return island.purseWorth(islander);
            case 1:
                return island.leadsTo(islander);
            case 2:
                return island.circle(islander);
            case 3:
                return island.sumOf(Island.FROM, islander);
            case 4:
                return island.sumOf(Island.TO, islander);
            default:
                throw new IllegalArgumentException("what is not 0 to 4");
        }
    }

    public int promiseOf(int number, int what) throws IndexOutOfBoundsException, IllegalArgumentException {
        needPromise(number);
        needRange(what, 0, 4);
        if (what < Island.PARTS) {
            return island.partOf(number, what);
        }
        return till.leastByColours(island, island.partOf(number, Island.FROM), island.partOf(number, Island.SUM));
    }

    public int owed(int from, int to) throws IndexOutOfBoundsException {
        needIslander(from);
        needIslander(to);
        int sum = 0;
        for (int number = 0; number < island.promises; number++) {
            if (island.partOf(number, Island.FROM) == from && island.partOf(number, Island.TO) == to) {
                sum += island.partOf(number, Island.SUM);
            }
        }
        return sum;
    }

    public int count(int what) throws IllegalArgumentException {
        switch (what) {
            case 0:
                return island.day;
            case 1:
                return island.allCaps();
            case 2:
                return island.allWorth();
            case 3:
                return island.promises;
            case 4:
                return island.trades;
            case 5:
                return island.kept;
            case 6:
                return island.broken;
            case 7:
                return island.refused;
            case 8:
                return island.unfair;
            case 9:
                return history.size;
            default:
                throw new IllegalArgumentException("what is not 0 to 9");
        }
    }

    // ---- what would be; nothing is changed

    public int where(int islander, int storms, int what)
            throws IndexOutOfBoundsException, IllegalArgumentException {
        needIslander(islander);
        needRange(storms, 0, MOST_STORMS_AHEAD);
        needRange(what, 0, 1);
        if (what == 0) {
            return island.along(islander, storms);
        }
        int circle = island.circle(islander);
        return island.along(islander, circle > 0 ? storms % circle : 0);
    }

    public int homeIn(int what) throws IllegalArgumentException {
        needRange(what, 0, 1);
        return what == 0 ? homeByCircles() : homeByTrying();
    }

    public int fewest(int islander, int sum, int what)
            throws IndexOutOfBoundsException, IllegalArgumentException {
        needIslander(islander);
        needRange(sum, 1, MOST_SUM);
        needRange(what, 0, 1);
        return what == 0 ? till.leastByColours(island, islander, sum) : till.leastByTrying(island, islander, sum);
    }

    public int richest() {
        int richest = 0;
        for (int islander = 1; islander < ISLANDERS; islander++) {
            if (island.purseWorth(islander) > island.purseWorth(richest)) {
                richest = islander;
            }
        }
        return richest;
    }

    public int canKeepIn(int number) throws IndexOutOfBoundsException {
        needPromise(number);
        int sum = island.partOf(number, Island.SUM);
        int lastDay = Math.min(island.partOf(number, Island.DUE), LAST_DAY);
        int holder = island.partOf(number, Island.FROM);
        for (int storms = 0; storms <= lastDay - island.day; storms++) {
            if (till.leastByColours(island, holder, sum) != NONE) {
                return storms;
            }
            holder = island.senderTo(holder);
        }
        return NONE;
    }

    public double richShare() {
        int all = island.allWorth();
        return all > 0 ? (double) island.purseWorth(richest()) / (double) all : 0.0;
    }

    public long digest() {
        long hash = 3643;
        for (int what = 0; what <= 9; what++) {
            hash = mixed(hash, count(what));
        }
        for (int colour = 0; colour < COLOURS; colour++) {
            hash = mixed(hash, island.worthOf(colour));
        }
        for (int islander = 0; islander < ISLANDERS; islander++) {
            hash = withIslander(hash, islander);
        }
        for (int number = 0; number < island.promises; number++) {
            hash = withPromise(hash, number);
        }
        hash = mixed(hash, homeIn(0));
        hash = mixed(hash, homeIn(1));
        hash = mixed(hash, richest());
        hash = mixed(hash, bitsOfShare(richShare()));
        for (int slot = 0; slot < SLOTS; slot++) {
            hash = mixed(hash, slotHolds[slot] ? 1 : 0);
        }
        hash = mixed(hash, text.length);
        for (int at = 0; at < text.length; at++) {
            hash = mixed(hash, text.signAt(at));
        }
        return hash;
    }

    // ---- parts of the digest

    private static long mixed(long hash, long value) {
        return 31 * hash + value;
    }

    private long withIslander(long before, int islander) {
        long hash = before;
        for (int colour = 0; colour < COLOURS; colour++) {
            hash = mixed(hash, caps(islander, colour));
        }
        for (int what = 0; what <= 4; what++) {
            hash = mixed(hash, islanderOf(islander, what));
        }
        hash = mixed(hash, where(islander, 7, 0));
        hash = mixed(hash, where(islander, 7, 1));
        hash = mixed(hash, fewest(islander, 17, 0));
        hash = mixed(hash, fewest(islander, 17, 1));
        for (int to = 0; to < ISLANDERS; to++) {
            hash = mixed(hash, owed(islander, to));
        }
        return hash;
    }

    private long withPromise(long before, int number) {
        long hash = before;
        for (int what = 0; what <= 4; what++) {
            hash = mixed(hash, promiseOf(number, what));
        }
        return mixed(hash, canKeepIn(number));
    }

    // By hand, as LANGUAGE.md lists nothing of Double; a share is 0.0 to 1.0, and every step is exact.
    private static long bitsOfShare(double share) {
        if (share <= 0.0) {
            return 0L;
        }
        double scaled = share;
        int exponent = 1023;
        while (scaled < 1.0 && exponent > 1) {
            scaled *= 2.0;
            exponent--;
        }
        long fraction = (long) ((scaled - 1.0) * (double) (1L << 52));
        return ((long) exponent << 52) + fraction;
    }

    // ---- trades, promises, orders

    private int reasonAgainst(int first, int colour, int many, int second, int colourToo, int manyToo) {
        if (island.capsOf(first, colour) < many) {
            return TOO_FEW;
        }
        if (island.capsOf(second, colourToo) < manyToo) {
            return TOO_FEW_TOO;
        }
        int difference = many * island.worthOf(colour) - manyToo * island.worthOf(colourToo);
        return Math.abs(difference) > island.unfair ? UNFAIR : 0;
    }

    private int keepPromise(int number) {
        int from = island.partOf(number, Island.FROM);
        int to = island.partOf(number, Island.TO);
        int many = till.leastByTrying(island, from, island.partOf(number, Island.SUM));
        if (many == NONE) {
            island.refused++;
            return NONE;
        }
        for (int colour = 0; colour < COLOURS; colour++) {
            island.hand(from, to, colour, till.given[colour]);
        }
        island.dropPromise(number);
        island.kept++;
        return many;
    }

    private boolean isDone(int at) {
        int digit = text.digitAt(at + 1);
        int digitToo = text.digitAt(at + 2);
        switch (text.signAt(at)) {
            case 's':
                return isStormDone();
            case 'x':
                island.swapPaths(digit, digitToo);
                return true;
            case 'p':
                return island.makePromise(digit, digitToo, text.sumOfOrder(at), text.daysOfOrder(at)) != NONE;
            default:
                return island.isPromise(digit) && keepPromise(digit) != NONE;
        }
    }

    private boolean isStormDone() {
        if (!island.canStorm()) {
            return false;
        }
        island.blow();
        return true;
    }

    // ---- homes

    private int homeByCircles() {
        int storms = 1;
        for (int islander = 0; islander < ISLANDERS; islander++) {
            storms = leastCommonMultiple(storms, island.circle(islander));
        }
        return storms;
    }

    private int homeByTrying() {
        for (int islander = 0; islander < ISLANDERS; islander++) {
            holders[islander] = islander;
        }
        int storms = 0;
        do {
            storms++;
            for (int purse = 0; purse < ISLANDERS; purse++) {
                holders[purse] = island.along(holders[purse], 1);
            }
        } while (!areHome() && storms < MOST_STORMS_AHEAD);
        return storms;
    }

    private boolean areHome() {
        for (int purse = 0; purse < ISLANDERS; purse++) {
            if (holders[purse] != purse) {
                return false;
            }
        }
        return true;
    }

    private static int leastCommonMultiple(int one, int other) {
        int multiple = one;
        for (int times = 1; times < other && other > 0 && multiple % other != 0; times++) {
            multiple += one;
        }
        return multiple;
    }

    // ---- what the document wants refused by an exception

    private static void needIslander(int islander) {
        if (!Island.isIslander(islander)) {
            throw new IndexOutOfBoundsException("there is no such islander");
        }
    }

    private static void needColour(int colour) {
        if (!Island.isColour(colour)) {
            throw new IndexOutOfBoundsException("there is no such colour");
        }
    }

    private void needPromise(int number) {
        if (!island.isPromise(number)) {
            throw new IndexOutOfBoundsException("there is no such promise");
        }
    }

    private static void needOthers(int one, int other) {
        if (one == other) {
            throw new IllegalArgumentException("both islanders are the same");
        }
    }

    private static void needRange(int value, int least, int most) {
        if (value < least || value > most) {
            throw new IllegalArgumentException("a number is out of range");
        }
    }

    /** All that a snapshot or a saved state holds. */
    private static final class Island {
        // A promise is a run of so many numbers, in the order of promiseOf.
        static final int PARTS = 4;
        static final int FROM = 0;
        static final int TO = 1;
        static final int SUM = 2;
        static final int DUE = 3;

        private final int[] purses = new int[ISLANDERS * COLOURS];
        private final int[] moved = new int[ISLANDERS * COLOURS];
        private final int[] worths = new int[COLOURS];
        private final int[] path = new int[ISLANDERS];
        private final int[] parts = new int[MOST_PROMISES * PARTS];
        int promises;
        int day;
        int unfair;
        int trades;
        int kept;
        int broken;
        int refused;

        Island() {
            worths[0] = 1;
            worths[1] = 2;
            worths[2] = 5;
            worths[3] = 9;
            for (int islander = 0; islander < ISLANDERS; islander++) {
                purses[islander * COLOURS + islander % COLOURS] = CAPS_AT_FIRST;
                path[islander] = (islander + 1) % ISLANDERS;
            }
        }

        static void copy(Island from, Island to) {
            if (from != null && to != null) {
                to.become(from);
            }
        }

        private void become(Island other) {
            System.arraycopy(other.purses, 0, purses, 0, ISLANDERS * COLOURS);
            System.arraycopy(other.worths, 0, worths, 0, COLOURS);
            System.arraycopy(other.path, 0, path, 0, ISLANDERS);
            System.arraycopy(other.parts, 0, parts, 0, MOST_PROMISES * PARTS);
            promises = other.promises;
            day = other.day;
            unfair = other.unfair;
            trades = other.trades;
            kept = other.kept;
            broken = other.broken;
            refused = other.refused;
        }

        // -- numbers; they are looked at again where a row is used, also those that come out of a row

        static boolean isIslander(int islander) {
            return islander >= 0 && islander < ISLANDERS;
        }

        static boolean isColour(int colour) {
            return colour >= 0 && colour < COLOURS;
        }

        boolean isPromise(int number) {
            return number >= 0 && number < promises && promises <= MOST_PROMISES;
        }

        // -- purses

        int capsOf(int islander, int colour) {
            return isIslander(islander) && isColour(colour) ? purses[islander * COLOURS + colour] : 0;
        }

        void hand(int from, int to, int colour, int many) {
            if (isIslander(from) && isIslander(to) && isColour(colour)) {
                purses[from * COLOURS + colour] -= many;
                purses[to * COLOURS + colour] += many;
            }
        }

        int worthOf(int colour) {
            return isColour(colour) ? worths[colour] : 0;
        }

        void makeWorth(int colour, int worth) {
            if (isColour(colour)) {
                worths[colour] = worth;
            }
        }

        int purseWorth(int islander) {
            int sum = 0;
            for (int colour = 0; colour < COLOURS; colour++) {
                sum += capsOf(islander, colour) * worthOf(colour);
            }
            return sum;
        }

        int allCaps() {
            int sum = 0;
            for (int place = 0; place < purses.length; place++) {
                sum += purses[place];
            }
            return sum;
        }

        int allWorth() {
            int sum = 0;
            for (int islander = 0; islander < ISLANDERS; islander++) {
                sum += purseWorth(islander);
            }
            return sum;
        }

        // -- storms

        boolean canStorm() {
            return day < LAST_DAY;
        }

        int blow() {
            for (int islander = 0; islander < ISLANDERS; islander++) {
                int to = leadsTo(islander);
                if (isIslander(to)) {
                    System.arraycopy(purses, islander * COLOURS, moved, to * COLOURS, COLOURS);
                }
            }
            System.arraycopy(moved, 0, purses, 0, ISLANDERS * COLOURS);
            day++;
            return breakPromises();
        }

        // From the last one on, as those behind a dropped one move up.
        private int breakPromises() {
            int now = 0;
            for (int number = promises - 1; number >= 0; number--) {
                if (partOf(number, DUE) < day) {
                    dropPromise(number);
                    now++;
                }
            }
            broken += now;
            return now;
        }

        // -- the path

        int leadsTo(int islander) {
            return isIslander(islander) ? path[islander] : NONE;
        }

        void swapPaths(int islander, int other) {
            if (isIslander(islander) && isIslander(other)) {
                int place = path[islander];
                path[islander] = path[other];
                path[other] = place;
            }
        }

        int along(int islander, int storms) {
            int at = islander;
            for (int storm = 0; storm < storms; storm++) {
                at = leadsTo(at);
            }
            return at;
        }

        int senderTo(int islander) {
            int sender = 0;
            while (sender < ISLANDERS - 1 && leadsTo(sender) != islander) {
                sender++;
            }
            return sender;
        }

        int circle(int islander) {
            int many = 1;
            for (int at = leadsTo(islander); at != islander && many < ISLANDERS; at = leadsTo(at)) {
                many++;
            }
            return many;
        }

        // -- promises

        int partOf(int number, int part) {
            return isPromise(number) && part >= 0 && part < PARTS ? parts[number * PARTS + part] : NONE;
        }

        int makePromise(int from, int to, int sum, int days) {
            if (promises >= MOST_PROMISES) {
                refused++;
                return NONE;
            }
            int place = promises * PARTS;
            parts[place + FROM] = from;
            parts[place + TO] = to;
            parts[place + SUM] = sum;
            parts[place + DUE] = day + days;
            promises++;
            return promises - 1;
        }

        void dropPromise(int number) {
            if (isPromise(number)) {
                int behind = (number + 1) * PARTS;
                System.arraycopy(parts, behind, parts, number * PARTS, promises * PARTS - behind);
                promises--;
            }
        }

        int sumOf(int side, int islander) {
            int sum = 0;
            for (int number = 0; number < promises; number++) {
                if (partOf(number, side) == islander) {
                    sum += partOf(number, SUM);
                }
            }
            return sum;
        }
    }

    /** The saved states, the oldest first; they are made once and used again. */
    private static final class History {
        private final Island[] saved = new Island[MOST_SAVED];
        int size;

        History() {
            for (int place = 0; place < MOST_SAVED; place++) {
                saved[place] = new Island();
            }
        }

        void push(Island island) {
            if (size >= MOST_SAVED) {
                dropOldest();
            }
            Island.copy(island, saved[size]);
            size++;
        }

        void pop(Island island) {
            if (size > 0) {
                size--;
                Island.copy(saved[size], island);
            }
        }

        private void dropOldest() {
            Island oldest = saved[0];
            for (int place = 1; place < MOST_SAVED; place++) {
                saved[place - 1] = saved[place];
            }
            saved[MOST_SAVED - 1] = oldest;
            size--;
        }
    }

    /** Finds the fewest caps of a purse that are worth just a sum. */
    private static final class Till {
        // More caps than a sum can need, and still far from an overflow.
        private static final int NO_WAY = 1000000;

        private final int[] least = new int[MOST_SUM + 1];
        // What leastByTrying has chosen of each colour, if it found a way.
        final int[] given = new int[COLOURS];

        int leastByColours(Island island, int holder, int sum) {
            if (sum < 0 || sum > MOST_SUM) {
                return NONE;
            }
            least[0] = 0;
            for (int lesser = 1; lesser <= sum; lesser++) {
                least[lesser] = NO_WAY;
            }
            for (int colour = 0; colour < COLOURS; colour++) {
                addColour(island.capsOf(holder, colour), island.worthOf(colour), sum);
            }
            return least[sum] < NO_WAY ? least[sum] : NONE;
        }

        // From the greatest sum on, so that the lesser ones are still without this colour.
        private void addColour(int caps, int worth, int sum) {
            for (int greater = sum; greater > 0; greater--) {
                for (int many = 1; many <= caps && many * worth <= greater; many++) {
                    least[greater] = Math.min(least[greater], least[greater - many * worth] + many);
                }
            }
        }

        // From the most caps of the dearest colours on, so that the first of several ways is the one that is due.
        int leastByTrying(Island island, int holder, int sum) {
            int fewest = NONE;
            for (int third = island.capsOf(holder, 3); third >= 0; third--) {
                for (int second = island.capsOf(holder, 2); second >= 0; second--) {
                    int rest = sum - third * island.worthOf(3) - second * island.worthOf(2);
                    for (int first = island.capsOf(holder, 1); first >= 0; first--) {
                        int zeroth = wholeCaps(rest - first * island.worthOf(1), island.worthOf(0));
                        int many = third + second + first + zeroth;
                        if (zeroth != NONE && zeroth <= island.capsOf(holder, 0) && (fewest == NONE || many < fewest)) {
                            fewest = many;
                            note(zeroth, first, second, third);
                        }
                    }
                }
            }
            return fewest;
        }

        private static int wholeCaps(int sum, int worth) {
            if (sum < 0 || worth <= 0 || sum % worth != 0) {
                return NONE;
            }
            return sum / worth;
        }

        private void note(int zeroth, int first, int second, int third) {
            given[0] = zeroth;
            given[1] = first;
            given[2] = second;
            given[3] = third;
        }
    }

    /** What may come next in orders as a text. */
    private enum Step {
        ORDER, CROSSED, CROSSED_TOO, FROM, TO, EQUALS, SUM, SUM_OR_SLASH, SLASH, DAYS, NUMBER, END, WRONG
    }

    /** The buffer, and how orders are read in it. */
    private static final class Text {
        private final char[] signs = new char[MOST_SIGNS];
        int length;

        void put(char sign) {
            if (length < MOST_SIGNS) {
                signs[length] = sign;
                length++;
            }
        }

        char signAt(int at) {
            return at >= 0 && at < length ? signs[at] : ' ';
        }

        int errorAt() {
            Step step = Step.ORDER;
            for (int at = 0; at < length; at++) {
                step = stepBehind(step, at);
                if (step == Step.WRONG) {
                    return at;
                }
            }
            return length;
        }

        boolean tellsOrders() {
            Step step = Step.ORDER;
            for (int at = 0; at < length; at++) {
                step = stepBehind(step, at);
            }
            return step == Step.END;
        }

        private Step stepBehind(Step step, int at) {
            char sign = signAt(at);
            switch (step) {
                case ORDER:
                    return stepInto(sign);
                case CROSSED:
                    return ifIn(sign, '0', '7', Step.CROSSED_TOO);
                case CROSSED_TOO:
                case NUMBER:
                    return ifIn(sign, '0', '7', Step.END);
                case FROM:
                    return ifIn(sign, '0', '7', Step.TO);
                case TO:
                    return sign == signAt(at - 1) ? Step.WRONG : ifIn(sign, '0', '7', Step.EQUALS);
                case EQUALS:
                    return ifIn(sign, '=', '=', Step.SUM);
                case SUM:
                    return ifIn(sign, '1', '9', Step.SUM_OR_SLASH);
                case SUM_OR_SLASH:
                    return sign == '/' ? Step.DAYS : ifIn(sign, '0', '9', Step.SLASH);
                case SLASH:
                    return ifIn(sign, '/', '/', Step.DAYS);
                case DAYS:
                    return ifIn(sign, '0', '9', Step.END);
                case END:
                    return ifIn(sign, ';', ';', Step.ORDER);
                default:
                    return Step.WRONG;
            }
        }

        private static Step stepInto(char letter) {
            switch (letter) {
                case 's':
                    return Step.END;
                case 'x':
                    return Step.CROSSED;
                case 'p':
                    return Step.FROM;
                case 'k':
                    return Step.NUMBER;
                default:
                    return Step.WRONG;
            }
        }

        private static Step ifIn(char sign, char least, char most, Step next) {
            return sign >= least && sign <= most ? next : Step.WRONG;
        }

        // -- parts of an order that begins at a place, in a text without errors

        int nextOrder(int at) {
            int behind = at;
            while (behind < length && signAt(behind) != ';') {
                behind++;
            }
            return behind + 1;
        }

        // Below 0 where no digit stands.
        int digitAt(int at) {
            char sign = signAt(at);
            return sign >= '0' && sign <= '9' ? sign - '0' : NONE;
        }

        // A promise is told as "p01=9/0" or "p01=99/0".
        int sumOfOrder(int at) {
            int sum = digitAt(at + 4);
            int ones = digitAt(at + 5);
            return ones == NONE ? sum : sum * 10 + ones;
        }

        int daysOfOrder(int at) {
            return digitAt(digitAt(at + 5) == NONE ? at + 6 : at + 7);
        }
    }
}
