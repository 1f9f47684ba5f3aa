import java.util.ArrayDeque;
import java.util.ArrayList;
import java.util.Arrays;
import java.util.Deque;
import java.util.List;
import java.util.regex.Matcher;
import java.util.regex.Pattern;

/** Long runs of calls, each answer compared with that of a second, plain telling of the document. */
public final class ModelTest {
    private static final int RUNS = 900;
    private static final int CALLS = 512;
    private static final String INDEX = "IndexOutOfBoundsException";
    private static final String ARGUMENT = "IllegalArgumentException";
    private static final String STATE = "IllegalStateException";

    private static int wrong = 0;
    private static long dice;
    private static int left;

    private interface Call {
        long go();
    }

    public static void main(String[] args) {
        for (int run = 0; run < RUNS && wrong == 0; run++) {
            dice = run * 7919L + 17;
            oneRun(run);
        }
        System.out.println(wrong == 0 ? "all answers are as due" : wrong + " answers are not as due");
        if (wrong != 0) {
            System.exit(1);
        }
    }

    // ---- the runs

    private static int pick(int many) {
        dice = dice * 6364136223846793005L + 1442695040888963407L;
        return (int) ((dice >>> 33) % many);
    }

    /** Mostly of the range, now and then one beside it. */
    private static int pick(int least, int most) {
        int chance = pick(60);
        if (chance == 0) {
            return least - 1 - pick(2);
        }
        if (chance == 1) {
            return most + 1 + pick(2);
        }
        return least + pick(most - least + 1);
    }

    private static void oneRun(int run) {
        StormPurses x = new StormPurses();
        Model m = new Model();
        // The looks and a digest behind each call are made in some runs only, so that the others get far.
        boolean looks = run % 3 == 0;
        int pace = run % 2 == 0 ? 1 : 16;
        int atEnd = run % 4 == 3 ? 2 * 99 : 1;
        List<String> told = new ArrayList<>();
        left = CALLS - atEnd;
        for (int step = 1; left > 0 && wrong == 0; step++) {
            int kind = pick(100);
            if (kind < 12) {
                typeOrders(x, m, told);
            } else {
                oneCall(x, m, told, kind, looks);
            }
            if (step % pace == 0) {
                same(told, "digest()", x::digest, m::digest);
            }
        }
        left = atEnd;
        if (atEnd > 1) {
            fewestOfOne(x, m, told);
        } else {
            same(told, "digest()", x::digest, m::digest);
        }
    }

    private static void typeOrders(StormPurses x, Model m, List<String> told) {
        String text = pick(4) == 0 ? letters() : orders();
        for (char sign : text.toCharArray()) {
            same(told, "append(" + sign + ")", () -> x.append(sign), () -> m.append(sign));
        }
        same(told, "firstError()", x::firstError, m::firstError);
        if (pick(5) != 0) {
            same(told, "run()", x::run, m::run);
        }
        if (pick(3) != 0) {
            same(told, "clearBuffer()", x::clearBuffer, m::clearBuffer);
        }
    }

    private static String orders() {
        StringBuilder text = new StringBuilder();
        for (int order = pick(7); order >= 0; order--) {
            text.append(order());
            if (order > 0 || pick(20) == 0) {
                text.append(';');
            }
        }
        return text.toString();
    }

    private static String order() {
        switch (pick(6)) {
            case 0:
                return "s";
            case 1:
                return "x" + pick(8) + pick(8);
            case 2:
            case 3:
                return "p" + pick(8) + pick(8) + "=" + (1 + (pick(2) == 0 ? pick(20) : pick(99))) + "/" + pick(10);
            default:
                return "k" + (pick(3) == 0 ? pick(8) : 0);
        }
    }

    private static String letters() {
        String signs = "sxpk01789=/;;s:!";
        StringBuilder text = new StringBuilder(pick(3) == 0 ? order() : "");
        for (int sign = pick(6); sign >= 0; sign--) {
            text.append(signs.charAt(pick(signs.length())));
        }
        return text.toString();
    }

    private static void oneCall(StormPurses x, Model m, List<String> told, int kind, boolean looks) {
        int a = pick(0, 7);
        int b = pick(0, 7);
        int c = pick(0, 3);
        int d = pick(0, 3);
        if (kind < 20) {
            same(told, "storm()", x::storm, m::storm);
        } else if (kind < 26) {
            same(told, "cross " + a + b, () -> x.cross(a, b), () -> m.cross(a, b));
        } else if (kind < 50) {
            int many = pick(3) == 0 ? pick(0, 99) : pick(0, 3);
            int manyToo = pick(3) == 0 ? pick(0, 99) : pick(0, 3);
            same(told, "trade " + Arrays.asList(a, c, many, b, d, manyToo),
                () -> x.trade(a, c, many, b, d, manyToo), () -> m.trade(a, c, many, b, d, manyToo));
        } else if (kind < 53) {
            int worth = pick(1, 9);
            same(told, "worth " + c + worth, () -> x.worth(c, worth), () -> m.worth(c, worth));
        } else if (kind < 56) {
            int value = pick(2) == 0 ? 9 : pick(0, 9);
            same(told, "set " + value, () -> x.set(value), () -> m.set(value));
        } else if (kind < 66) {
            int sum = pick(1, 99);
            int days = pick(0, 9);
            same(told, "promise " + Arrays.asList(a, b, sum, days),
                () -> x.promise(a, b, sum, days), () -> m.promise(a, b, sum, days));
        } else if (kind < 76) {
            same(told, "fulfil " + a, () -> x.fulfil(a), () -> m.fulfil(a));
        } else if (kind < 80) {
            int slot = pick(0, 1);
            same(told, "keep " + slot, () -> x.keep(slot), () -> m.keep(slot));
        } else if (kind < 82) {
            int slot = pick(0, 1);
            same(told, "goBack " + slot, () -> x.goBack(slot), () -> m.goBack(slot));
        } else if (kind < 87) {
            same(told, "undo()", x::undo, m::undo);
        } else if (looks) {
            look(x, m, told);
        }
    }

    private static void look(StormPurses x, Model m, List<String> told) {
        int a = pick(0, 7);
        int b = pick(0, 7);
        int what = pick(0, 4);
        int way = pick(0, 1);
        int storms = pick(3) == 0 ? pick(0, 1000) : pick(0, 20);
        int sum = pick(1, 99);
        same(told, "caps", () -> x.caps(a, what), () -> m.caps(a, what));
        same(told, "islanderOf", () -> x.islanderOf(a, what), () -> m.islanderOf(a, what));
        same(told, "promiseOf", () -> x.promiseOf(a, what), () -> m.promiseOf(a, what));
        same(told, "owed", () -> x.owed(a, b), () -> m.owed(a, b));
        same(told, "count", () -> x.count(a + what), () -> m.count(a + what));
        same(told, "where", () -> x.where(a, storms, way), () -> m.where(a, storms, way));
        same(told, "homeIn", () -> x.homeIn(way), () -> m.homeIn(way));
        same(told, "fewest " + a + " " + sum, () -> x.fewest(a, sum, way), () -> m.fewest(a, sum, way));
        same(told, "canKeepIn", () -> x.canKeepIn(a), () -> m.canKeepIn(a));
        same(told, "append", () -> x.append(sum + 30), () -> m.append(sum + 30));
        same(told, "clearBuffer()", x::clearBuffer, m::clearBuffer);
    }

    private static void fewestOfOne(StormPurses x, Model m, List<String> told) {
        int a = pick(8);
        for (int sum = 1; sum <= 99; sum++) {
            int s = sum;
            same(told, "fewest " + a + " " + s + " 0", () -> x.fewest(a, s, 0), () -> m.fewest(a, s, 0));
            same(told, "fewest " + a + " " + s + " 1", () -> x.fewest(a, s, 1), () -> m.fewest(a, s, 1));
        }
    }

    /** The call is left out where it would be the object's 513th one, as answers are free from there on. */
    private static void same(List<String> told, String call, Call program, Call model) {
        if (left <= 0) {
            return;
        }
        left--;
        told.add(call);
        String got = answer(program);
        String want = answer(model);
        if (!got.equals(want)) {
            wrong++;
            System.out.println(call + " answered " + got + ", due is " + want + ", behind " + told);
        }
    }

    private static String answer(Call call) {
        try {
            return Long.toString(call.go());
        } catch (RuntimeException e) {
            return e.getClass().getSimpleName();
        }
    }

    // ---- the second telling

    /** A state is never changed where it is saved: it is copied whole. */
    private static final class State {
        List<int[]> purses = new ArrayList<>();
        int[] worths = {1, 2, 5, 9};
        int[] path = {1, 2, 3, 4, 5, 6, 7, 0};
        List<int[]> promises = new ArrayList<>();
        int[] counts = new int[10];

        State copy() {
            State copy = new State();
            for (int[] purse : purses) {
                copy.purses.add(purse.clone());
            }
            copy.worths = worths.clone();
            copy.path = path.clone();
            for (int[] promise : promises) {
                copy.promises.add(promise.clone());
            }
            copy.counts = counts.clone();
            return copy;
        }
    }

    private static final class Model {
        private static final int DAY = 0;
        private static final int TRADES = 4;
        private static final int KEPT = 5;
        private static final int BROKEN = 6;
        private static final int REFUSED = 7;
        private static final int UNFAIR = 8;
        private static final Pattern ORDERS = Pattern.compile(orders());
        // A text can be gone on with to be whole if it is whole with one of these.
        private static final String[] ENDS = {"", "s", "0", "1", "00", "=1/0", "0=1/0", "1=1/0", "01=1/0", "1/0", "/0"};

        State s = new State();
        Deque<State> saved = new ArrayDeque<>();
        State[] slots = new State[2];
        String buffer = "";

        Model() {
            for (int islander = 0; islander < 8; islander++) {
                int[] purse = new int[4];
                purse[islander % 4] = 10;
                s.purses.add(purse);
            }
        }

        private static String orders() {
            StringBuilder promise = new StringBuilder();
            for (int from = 0; from < 8; from++) {
                promise.append(from == 0 ? "" : "|").append(from).append('[');
                promise.append("01234567".replace(Integer.toString(from), "")).append(']');
            }
            String order = "(s|x[0-7][0-7]|p(" + promise + ")=[1-9][0-9]?/[0-9]|k[0-7])";
            return order + "(;" + order + ")*";
        }

        static void check(boolean fine, String exception) {
            if (!fine) {
                switch (exception) {
                    case INDEX:
                        throw new IndexOutOfBoundsException();
                    case ARGUMENT:
                        throw new IllegalArgumentException();
                    default:
                        throw new IllegalStateException();
                }
            }
        }

        static boolean in(int value, int least, int most) {
            return least <= value && value <= most;
        }

        void save() {
            saved.addLast(s.copy());
            if (saved.size() > 6) {
                saved.removeFirst();
            }
        }

        int storm() {
            check(s.counts[DAY] < 9999, STATE);
            save();
            return justStorm();
        }

        int justStorm() {
            List<int[]> before = new ArrayList<>(s.purses);
            for (int islander = 0; islander < 8; islander++) {
                s.purses.set(s.path[islander], before.get(islander));
            }
            int day = ++s.counts[DAY];
            int held = s.promises.size();
            s.promises.removeIf(promise -> promise[3] < day);
            int now = held - s.promises.size();
            s.counts[BROKEN] += now;
            return now;
        }

        int cross(int one, int other) {
            check(in(one, 0, 7) && in(other, 0, 7), INDEX);
            save();
            return justCross(one, other);
        }

        int justCross(int one, int other) {
            int[] before = s.path.clone();
            s.path[one] = before[other];
            s.path[other] = before[one];
            return s.path[one];
        }

        int trade(int first, int colour, int many, int second, int colourToo, int manyToo) {
            check(in(first, 0, 7) && in(second, 0, 7) && in(colour, 0, 3) && in(colourToo, 0, 3), INDEX);
            check(first != second && in(many, 0, 99) && in(manyToo, 0, 99), ARGUMENT);
            save();
            int[] purse = s.purses.get(first);
            int[] purseToo = s.purses.get(second);
            int gives = many * s.worths[colour];
            int givesToo = manyToo * s.worths[colourToo];
            int reason = purse[colour] < many ? 1 : purseToo[colourToo] < manyToo ? 2
                : gives > givesToo + s.counts[UNFAIR] || givesToo > gives + s.counts[UNFAIR] ? 3 : 0;
            if (reason != 0) {
                s.counts[REFUSED]++;
                return reason;
            }
            purse[colour] -= many;
            purseToo[colour] += many;
            purseToo[colourToo] -= manyToo;
            purse[colourToo] += manyToo;
            s.counts[TRADES]++;
            return 0;
        }

        int worth(int colour, int worth) {
            check(in(colour, 0, 3), INDEX);
            check(in(worth, 1, 9), ARGUMENT);
            save();
            int before = s.worths[colour];
            s.worths[colour] = worth;
            return before;
        }

        int set(int value) {
            check(in(value, 0, 9), ARGUMENT);
            save();
            int before = s.counts[UNFAIR];
            s.counts[UNFAIR] = value;
            return before;
        }

        int promise(int from, int to, int sum, int days) {
            check(in(from, 0, 7) && in(to, 0, 7), INDEX);
            check(from != to && in(sum, 1, 99) && in(days, 0, 9), ARGUMENT);
            save();
            return justPromise(from, to, sum, days);
        }

        int justPromise(int from, int to, int sum, int days) {
            if (s.promises.size() == 8) {
                s.counts[REFUSED]++;
                return -1;
            }
            s.promises.add(new int[] {from, to, sum, s.counts[DAY] + days});
            return s.promises.size() - 1;
        }

        int fulfil(int number) {
            check(in(number, 0, s.promises.size() - 1), INDEX);
            save();
            return justFulfil(number);
        }

        int justFulfil(int number) {
            int[] promise = s.promises.get(number);
            int[] way = bestWay(s.purses.get(promise[0]), promise[2]);
            if (way == null) {
                s.counts[REFUSED]++;
                return -1;
            }
            for (int colour = 0; colour < 4; colour++) {
                s.purses.get(promise[0])[colour] -= way[colour];
                s.purses.get(promise[1])[colour] += way[colour];
            }
            s.promises.remove(number);
            s.counts[KEPT]++;
            return Arrays.stream(way).sum();
        }

        /** All ways are tried, from the fewest caps of the first colours on. */
        int[] bestWay(int[] purse, int sum) {
            int[] best = null;
            for (int zeroth = 0; zeroth <= purse[0]; zeroth++) {
                for (int first = 0; first <= purse[1]; first++) {
                    for (int second = 0; second <= purse[2]; second++) {
                        int rest = sum - zeroth * s.worths[0] - first * s.worths[1] - second * s.worths[2];
                        int third = rest / s.worths[3];
                        int[] way = {zeroth, first, second, third};
                        if (rest >= 0 && rest % s.worths[3] == 0 && third <= purse[3] && isBetter(way, best)) {
                            best = way;
                        }
                    }
                }
            }
            return best;
        }

        static boolean isBetter(int[] way, int[] best) {
            if (best == null) {
                return true;
            }
            int difference = Arrays.stream(best).sum() - Arrays.stream(way).sum();
            for (int colour = 3; colour >= 0 && difference == 0; colour--) {
                difference = way[colour] - best[colour];
            }
            return difference > 0;
        }

        int append(int code) {
            check(in(code, 33, 126), ARGUMENT);
            check(buffer.length() < 60, STATE);
            buffer += (char) code;
            return buffer.length();
        }

        int clearBuffer() {
            int before = buffer.length();
            buffer = "";
            return before;
        }

        int firstError() {
            for (int length = 1; length <= buffer.length(); length++) {
                boolean begins = false;
                for (String end : ENDS) {
                    begins = begins || ORDERS.matcher(buffer.substring(0, length) + end).matches();
                }
                if (!begins) {
                    return length - 1;
                }
            }
            return buffer.length();
        }

        int run() {
            check(ORDERS.matcher(buffer).matches(), ARGUMENT);
            save();
            int done = 0;
            for (String order : buffer.split(";")) {
                if (!isDone(order)) {
                    break;
                }
                done++;
            }
            buffer = "";
            return done;
        }

        boolean isDone(String order) {
            Matcher two = Pattern.compile("x(.)(.)").matcher(order);
            Matcher promise = Pattern.compile("p(.)(.)=(.*)/(.)").matcher(order);
            if (two.matches()) {
                justCross(number(two, 1), number(two, 2));
            } else if (promise.matches()) {
                return justPromise(number(promise, 1), number(promise, 2), number(promise, 3), number(promise, 4)) >= 0;
            } else if (order.equals("s")) {
                justStorm();
            } else {
                int number = order.charAt(1) - '0';
                return number < s.promises.size() && justFulfil(number) >= 0;
            }
            return true;
        }

        static int number(Matcher matcher, int group) {
            return Integer.parseInt(matcher.group(group));
        }

        int keep(int slot) {
            check(in(slot, 0, 1), ARGUMENT);
            slots[slot] = s.copy();
            return s.counts[DAY];
        }

        int goBack(int slot) {
            check(in(slot, 0, 1), ARGUMENT);
            check(slots[slot] != null, STATE);
            save();
            s = slots[slot].copy();
            return s.counts[DAY];
        }

        int undo() {
            check(!saved.isEmpty(), STATE);
            s = saved.removeLast();
            return saved.size();
        }

        int caps(int islander, int colour) {
            check(in(islander, 0, 7) && in(colour, 0, 3), INDEX);
            return s.purses.get(islander)[colour];
        }

        int islanderOf(int islander, int what) {
            check(in(islander, 0, 7), INDEX);
            check(in(what, 0, 4), ARGUMENT);
            int[] purse = s.purses.get(islander);
            switch (what) {
                case 0:
                    return purse[0] * s.worths[0] + purse[1] * s.worths[1] + purse[2] * s.worths[2]
                        + purse[3] * s.worths[3];
                case 1:
                    return s.path[islander];
                case 2:
                    int round = 1;
                    while (where(islander, round, 0) != islander) {
                        round++;
                    }
                    return round;
                case 3:
                    return s.promises.stream().filter(p -> p[0] == islander).mapToInt(p -> p[2]).sum();
                default:
                    return s.promises.stream().filter(p -> p[1] == islander).mapToInt(p -> p[2]).sum();
            }
        }

        int promiseOf(int number, int what) {
            check(in(number, 0, s.promises.size() - 1), INDEX);
            check(in(what, 0, 4), ARGUMENT);
            int[] promise = s.promises.get(number);
            return what < 4 ? promise[what] : fewest(promise[0], promise[2], 0);
        }

        int owed(int from, int to) {
            check(in(from, 0, 7) && in(to, 0, 7), INDEX);
            return s.promises.stream().filter(p -> p[0] == from && p[1] == to).mapToInt(p -> p[2]).sum();
        }

        int count(int what) {
            check(in(what, 0, 9), ARGUMENT);
            switch (what) {
                case 1:
                    return s.purses.stream().mapToInt(purse -> Arrays.stream(purse).sum()).sum();
                case 2:
                    int sum = 0;
                    for (int islander = 0; islander < 8; islander++) {
                        sum += islanderOf(islander, 0);
                    }
                    return sum;
                case 3:
                    return s.promises.size();
                case 9:
                    return saved.size();
                default:
                    return s.counts[what];
            }
        }

        int where(int islander, int storms, int what) {
            check(in(islander, 0, 7), INDEX);
            check(in(storms, 0, 1000) && in(what, 0, 1), ARGUMENT);
            return storms == 0 ? islander : where(s.path[islander], storms - 1, what);
        }

        int homeIn(int what) {
            check(in(what, 0, 1), ARGUMENT);
            for (int storms = 1;; storms++) {
                boolean home = true;
                for (int islander = 0; islander < 8; islander++) {
                    home = home && where(islander, storms, 0) == islander;
                }
                if (home) {
                    return storms;
                }
            }
        }

        int fewest(int islander, int sum, int what) {
            check(in(islander, 0, 7), INDEX);
            check(in(sum, 1, 99) && in(what, 0, 1), ARGUMENT);
            int[] way = bestWay(s.purses.get(islander), sum);
            return way == null ? -1 : Arrays.stream(way).sum();
        }

        int richest() {
            int best = 7;
            for (int islander = 6; islander >= 0; islander--) {
                best = islanderOf(islander, 0) >= islanderOf(best, 0) ? islander : best;
            }
            return best;
        }

        /** The storms come on a copy, and the promise is looked for there. */
        int canKeepIn(int number) {
            check(in(number, 0, s.promises.size() - 1), INDEX);
            State before = s;
            int[] promise = s.promises.get(number);
            s = before.copy();
            s.promises.clear();
            s.promises.add(promise);
            int storms = 0;
            while (!s.promises.isEmpty() && fewest(promise[0], promise[2], 0) < 0) {
                justStorm();
                storms++;
            }
            boolean stands = !s.promises.isEmpty();
            s = before;
            return stands ? storms : -1;
        }

        double richShare() {
            return (double) islanderOf(richest(), 0) / count(2);
        }

        long digest() {
            List<Long> values = new ArrayList<>();
            for (int what = 0; what < 10; what++) {
                values.add((long) count(what));
            }
            for (int worth : s.worths) {
                values.add((long) worth);
            }
            for (int islander = 0; islander < 8; islander++) {
                for (int colour = 0; colour < 4; colour++) {
                    values.add((long) caps(islander, colour));
                }
                for (int what = 0; what < 5; what++) {
                    values.add((long) islanderOf(islander, what));
                }
                for (int twice = 0; twice < 2; twice++) {
                    values.add((long) where(islander, 7, 0));
                }
                for (int twice = 0; twice < 2; twice++) {
                    values.add((long) fewest(islander, 17, 0));
                }
                for (int to = 0; to < 8; to++) {
                    values.add((long) owed(islander, to));
                }
            }
            for (int number = 0; number < s.promises.size(); number++) {
                for (int what = 0; what < 5; what++) {
                    values.add((long) promiseOf(number, what));
                }
                values.add((long) canKeepIn(number));
            }
            values.add((long) homeIn(0));
            values.add((long) homeIn(1));
            values.add((long) richest());
            values.add(Double.doubleToLongBits(richShare()));
            for (State slot : slots) {
                values.add(slot == null ? 0L : 1L);
            }
            values.add((long) buffer.length());
            for (char sign : buffer.toCharArray()) {
                values.add((long) sign);
            }
            long hash = 3643;
            for (long value : values) {
                hash = 31 * hash + value;
            }
            return hash;
        }
    }
}
