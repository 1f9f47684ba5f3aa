import java.util.ArrayList;
import java.util.List;

/** What the hand-made tests share: answers that are compared, and ways to an island as a test needs it. */
abstract class Checks {
    static final Class<?> INDEX = IndexOutOfBoundsException.class;
    static final Class<?> ARGUMENT = IllegalArgumentException.class;
    static final Class<?> STATE = IllegalStateException.class;

    private static int wrong = 0;
    private static String part = "";

    interface Call {
        void go();
    }

    interface CallWith {
        void go(int value);
    }

    // ---- tests

    /** What this test throws is told as its own fault, so that those behind it are still run. */
    static void test(String words, Call made) {
        part = words;
        try {
            made.go();
        } catch (RuntimeException e) {
            tell("threw " + e);
        }
    }

    static void end() {
        System.out.println(wrong == 0 ? "all answers are as due" : wrong + " answers are not as due");
        if (wrong != 0) {
            System.exit(1);
        }
    }

    private static void tell(String what) {
        wrong++;
        System.out.println(part + ": " + what);
    }

    // ---- answers

    static void due(String call, long got, long want) {
        if (got != want) {
            tell(call + " answered " + got + ", due is " + want);
        }
    }

    static void dueShare(String call, double got, double want) {
        if (got != want) {
            tell(call + " answered " + got + ", due is " + want);
        }
    }

    /** The call throws just this exception, and changes nothing. */
    static void dueThrows(StormPurses x, String call, Class<?> want, Call made) {
        long before = x.digest();
        Class<?> got = thrown(made);
        if (got != want) {
            tell(call + " threw " + got + ", due is " + want);
        }
        due(call + " left the digest", x.digest(), before);
    }

    /** The ends of a range are taken; what lies beside them throws this exception, and changes nothing. */
    static void dueRange(StormPurses x, int least, int most, Class<?> beside, CallWith made) {
        for (int end : new int[] {least, most}) {
            Class<?> got = thrown(() -> made.go(end));
            if (got != null) {
                tell(end + " threw " + got + ", due is that it is taken");
            }
        }
        for (int bad : new int[] {least - 1, most + 1, Integer.MIN_VALUE, Integer.MAX_VALUE, least + 65536}) {
            dueThrows(x, "with " + bad, beside, () -> made.go(bad));
        }
    }

    private static Class<?> thrown(Call made) {
        try {
            made.go();
        } catch (RuntimeException e) {
            return e.getClass();
        }
        return null;
    }

    static void duePurse(StormPurses x, int islander, int zeroth, int first, int second, int third) {
        due("caps(" + islander + ", 0)", x.caps(islander, 0), zeroth);
        due("caps(" + islander + ", 1)", x.caps(islander, 1), first);
        due("caps(" + islander + ", 2)", x.caps(islander, 2), second);
        due("caps(" + islander + ", 3)", x.caps(islander, 3), third);
    }

    /** Trades, kept, broken and refused, in the order of count. */
    static void dueCounts(StormPurses x, int trades, int kept, int broken, int refused) {
        due("count(4)", x.count(4), trades);
        due("count(5)", x.count(5), kept);
        due("count(6)", x.count(6), broken);
        due("count(7)", x.count(7), refused);
    }

    // ---- ways to an island

    static void type(StormPurses x, String text) {
        for (char sign : text.toCharArray()) {
            x.append(sign);
        }
    }

    static int typeAndRun(StormPurses x, String text) {
        type(x, text);
        return x.run();
    }

    static void storms(StormPurses x, int many) {
        for (int storm = 0; storm < many; storm++) {
            x.storm();
        }
    }

    /** Crosses the path, so that it leads from the one islander to the other one. */
    static void lead(StormPurses x, int islander, int to) {
        for (int other = 0; other < 8; other++) {
            if (x.islanderOf(other, 1) == to) {
                x.cross(islander, other);
                return;
            }
        }
    }

    /** The islander 0 gets caps of all colours: 4 of the colour 0, 2 of 1, 1 of 2, 1 of 3. */
    static StormPurses mixed() {
        StormPurses x = new StormPurses();
        x.set(9);
        x.trade(0, 0, 2, 1, 1, 2);
        x.trade(0, 0, 2, 2, 2, 1);
        x.trade(0, 0, 2, 3, 3, 1);
        return x;
    }

    // ---- the digest

    static void dueDigest(StormPurses x, int[] worths, int slot, int slotToo, String buffer) {
        long want = digestOf(x, worths, slot, slotToo, buffer);
        due("digest()", x.digest(), want);
        due("digest() again", x.digest(), want);
    }

    /** By the document's words, out of what the other calls answer (some 300 calls). */
    private static long digestOf(StormPurses x, int[] worths, int slot, int slotToo, String buffer) {
        List<Long> values = new ArrayList<>();
        for (int what = 0; what < 10; what++) {
            values.add((long) x.count(what));
        }
        for (int worth : worths) {
            values.add((long) worth);
        }
        for (int islander = 0; islander < 8; islander++) {
            addIslander(values, x, islander);
        }
        for (int number = 0; number < x.count(3); number++) {
            for (int what = 0; what < 5; what++) {
                values.add((long) x.promiseOf(number, what));
            }
            values.add((long) x.canKeepIn(number));
        }
        values.add((long) x.homeIn(0));
        values.add((long) x.homeIn(1));
        values.add((long) x.richest());
        values.add(Double.doubleToLongBits(x.richShare()));
        values.add((long) slot);
        values.add((long) slotToo);
        values.add((long) buffer.length());
        for (char sign : buffer.toCharArray()) {
            values.add((long) sign);
        }
        long hash = 3643;
        for (long value : values) {
            hash = 31 * hash + value;
        }
        return hash;
    }

    private static void addIslander(List<Long> values, StormPurses x, int islander) {
        for (int colour = 0; colour < 4; colour++) {
            values.add((long) x.caps(islander, colour));
        }
        for (int what = 0; what < 5; what++) {
            values.add((long) x.islanderOf(islander, what));
        }
        values.add((long) x.where(islander, 7, 0));
        values.add((long) x.where(islander, 7, 1));
        values.add((long) x.fewest(islander, 17, 0));
        values.add((long) x.fewest(islander, 17, 1));
        for (int to = 0; to < 8; to++) {
            values.add((long) x.owed(islander, to));
        }
    }
}
