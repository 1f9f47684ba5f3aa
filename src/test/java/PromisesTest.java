/** Each promise of the document by hand-made cases: ordinary inputs, the edges that it names, and wrong inputs. */
public final class PromisesTest extends Checks {
    public static void main(String[] args) {
        test("promise 1", PromisesTest::newObject);
        test("promise 2", PromisesTest::storm);
        test("promise 2, broken", PromisesTest::stormBreaksPromises);
        test("promise 3", PromisesTest::cross);
        test("promise 4", PromisesTest::trade);
        test("promise 4, refused", PromisesTest::tradeRefused);
        test("promise 4, wrong inputs", PromisesTest::tradeWrongInputs);
        test("promise 5", PromisesTest::worth);
        test("promise 6", PromisesTest::set);
        test("promise 7", PromisesTest::promise);
        test("promise 7, wrong inputs", PromisesTest::promiseWrongInputs);
        test("promise 8", PromisesTest::fulfil);
        test("promise 8, ways", PromisesTest::fulfilChoosesAmongWays);
        test("promise 8, refused", PromisesTest::fulfilRefused);
        test("promise 9", PromisesTest::append);
        test("promise 10", PromisesTest::clearBuffer);
        test("promise 11", PromisesTest::firstError);
        test("promise 11, errors", PromisesTest::firstErrorByPlace);
        test("promise 12", PromisesTest::run);
        test("promise 12, stops", PromisesTest::runStops);
        test("promise 12, wrong inputs", PromisesTest::runWrongInputs);
        test("promise 13", PromisesTest::keep);
        test("promise 14", PromisesTest::goBack);
        test("promise 15", PromisesTest::undo);
        test("undoable", PromisesTest::undoOfEachMethod);
        test("promise 16", PromisesTest::caps);
        test("promise 17", PromisesTest::islanderOf);
        test("promise 18", PromisesTest::promiseOf);
        test("promise 19", PromisesTest::owed);
        test("promise 20", PromisesTest::count);
        test("promise 21", PromisesTest::where);
        test("promise 22", PromisesTest::homeIn);
        test("promise 23", PromisesTest::fewest);
        test("promise 24", PromisesTest::richest);
        test("promise 25", PromisesTest::canKeepIn);
        test("promise 26", PromisesTest::richShare);
        test("promise 27", PromisesTest::digest);
        end();
    }

    // ---- promises 1 to 6

    private static void newObject() {
        StormPurses x = new StormPurses();
        duePurse(x, 0, 10, 0, 0, 0);
        duePurse(x, 1, 0, 10, 0, 0);
        duePurse(x, 2, 0, 0, 10, 0);
        duePurse(x, 3, 0, 0, 0, 10);
        duePurse(x, 4, 10, 0, 0, 0);
        duePurse(x, 5, 0, 10, 0, 0);
        duePurse(x, 6, 0, 0, 10, 0);
        duePurse(x, 7, 0, 0, 0, 10);
        for (int islander = 0; islander < 8; islander++) {
            due("islanderOf(.., 1)", x.islanderOf(islander, 1), (islander + 1) % 8);
        }
        int[] counts = {0, 80, 340, 0, 0, 0, 0, 0, 0, 0};
        for (int what = 0; what < 10; what++) {
            due("count(" + what + ")", x.count(what), counts[what]);
        }
        due("clearBuffer()", x.clearBuffer(), 0);
        dueThrows(x, "goBack(0)", STATE, () -> x.goBack(0));
        dueThrows(x, "goBack(1)", STATE, () -> x.goBack(1));
        dueThrows(x, "undo()", STATE, () -> x.undo());
        StormPurses other = new StormPurses();
        other.storm();
        due("another object's storm: count(0)", x.count(0), 0);
        due("NONE", StormPurses.NONE, -1);
    }

    private static void storm() {
        StormPurses x = new StormPurses();
        due("storm()", x.storm(), 0);
        due("count(0)", x.count(0), 1);
        due("count(9)", x.count(9), 1);
        duePurse(x, 0, 0, 0, 0, 10);
        duePurse(x, 1, 10, 0, 0, 0);
        duePurse(x, 2, 0, 10, 0, 0);
        duePurse(x, 7, 0, 0, 10, 0);
        due("islanderOf(0, 1)", x.islanderOf(0, 1), 1);
        x.cross(0, 2);
        x.storm();
        duePurse(x, 3, 0, 0, 0, 10);
        duePurse(x, 1, 0, 10, 0, 0);
        duePurse(x, 2, 10, 0, 0, 0);
    }

    private static void stormBreaksPromises() {
        StormPurses x = new StormPurses();
        x.promise(0, 1, 1, 0);
        x.promise(0, 2, 2, 1);
        x.promise(0, 3, 3, 0);
        x.promise(0, 4, 4, 2);
        x.promise(0, 5, 5, 0);
        due("storm()", x.storm(), 3);
        due("count(3)", x.count(3), 2);
        due("count(6)", x.count(6), 3);
        due("promiseOf(0, 2)", x.promiseOf(0, 2), 2);
        due("promiseOf(1, 2)", x.promiseOf(1, 2), 4);
        due("storm()", x.storm(), 1);
        due("promiseOf(0, 2)", x.promiseOf(0, 2), 4);
        due("storm()", x.storm(), 1);
        due("storm()", x.storm(), 0);
        due("count(6)", x.count(6), 5);
        due("count(7)", x.count(7), 0);
        for (int promise = 0; promise < 8; promise++) {
            x.promise(promise, 7 - promise, 5, 9);
        }
        storms(x, 9);
        due("count(3) on the day", x.count(3), 8);
        due("storm() behind the day", x.storm(), 8);
        due("count(3)", x.count(3), 0);
    }

    private static void cross() {
        StormPurses x = new StormPurses();
        due("cross(2, 5)", x.cross(2, 5), 6);
        due("islanderOf(2, 1)", x.islanderOf(2, 1), 6);
        due("islanderOf(5, 1)", x.islanderOf(5, 1), 3);
        due("cross(4, 4)", x.cross(4, 4), 5);
        due("islanderOf(4, 1)", x.islanderOf(4, 1), 5);
        due("count(9)", x.count(9), 2);
        due("cross(0, 7)", x.cross(0, 7), 0);
        due("cross(7, 0)", x.cross(7, 0), 0);
        duePurse(x, 2, 0, 0, 10, 0);
        for (int bad : new int[] {-1, 8, Integer.MIN_VALUE, Integer.MAX_VALUE}) {
            dueThrows(x, "cross(" + bad + ", 0)", INDEX, () -> x.cross(bad, 0));
            dueThrows(x, "cross(0, " + bad + ")", INDEX, () -> x.cross(0, bad));
        }
    }

    private static void trade() {
        StormPurses x = new StormPurses();
        due("trade of all", x.trade(0, 0, 10, 1, 1, 5), 0);
        duePurse(x, 0, 0, 5, 0, 0);
        duePurse(x, 1, 10, 5, 0, 0);
        due("trade of nothing", x.trade(0, 3, 0, 7, 2, 0), 0);
        due("trade of one colour", x.trade(0, 1, 2, 1, 1, 2), 0);
        duePurse(x, 0, 0, 5, 0, 0);
        dueCounts(x, 3, 0, 0, 0);
        due("count(9)", x.count(9), 3);
        x.set(9);
        due("a gift of 9", x.trade(3, 3, 1, 2, 0, 0), 0);
        due("a gift of 9, back", x.trade(3, 0, 0, 2, 3, 1), 0);
        due("a gift of 10", x.trade(2, 2, 2, 3, 0, 0), 3);
        due("a gift of 10, back", x.trade(3, 0, 0, 2, 2, 2), 3);
    }

    private static void tradeRefused() {
        StormPurses x = new StormPurses();
        due("too few, and too few, and unfair", x.trade(0, 0, 11, 1, 1, 99), 1);
        due("too few of the second", x.trade(0, 0, 10, 1, 1, 11), 2);
        due("too few of a colour not held", x.trade(0, 1, 1, 1, 1, 1), 1);
        due("unfair by 1", x.trade(0, 0, 1, 1, 1, 1), 3);
        due("unfair by -1", x.trade(1, 1, 1, 0, 0, 1), 3);
        dueCounts(x, 0, 0, 0, 5);
        due("count(9)", x.count(9), 5);
        duePurse(x, 0, 10, 0, 0, 0);
        duePurse(x, 1, 0, 10, 0, 0);
        x.set(1);
        due("unfair by 1, with 1", x.trade(0, 0, 1, 1, 1, 1), 0);
        due("unfair by 2, with 1", x.trade(0, 0, 2, 1, 1, 2), 3);
        x.worth(0, 2);
        due("fair by the worth", x.trade(0, 0, 3, 1, 1, 3), 0);
        dueCounts(x, 2, 0, 0, 6);
    }

    private static void tradeWrongInputs() {
        StormPurses x = new StormPurses();
        for (int bad : new int[] {-1, 8, Integer.MIN_VALUE, Integer.MAX_VALUE}) {
            dueThrows(x, "first " + bad, INDEX, () -> x.trade(bad, 0, 0, 1, 0, 0));
            dueThrows(x, "second " + bad, INDEX, () -> x.trade(1, 0, 0, bad, 0, 0));
            dueThrows(x, "both " + bad, INDEX, () -> x.trade(bad, 0, 0, bad, 0, 0));
        }
        for (int bad : new int[] {-1, 4, Integer.MIN_VALUE, Integer.MAX_VALUE}) {
            dueThrows(x, "colour " + bad, INDEX, () -> x.trade(0, bad, 0, 1, 0, 0));
            dueThrows(x, "colourToo " + bad, INDEX, () -> x.trade(0, 0, 0, 1, bad, 0));
            dueThrows(x, "colourToo before the same", INDEX, () -> x.trade(0, 0, 100, 0, bad, 0));
        }
        for (int bad : new int[] {-1, 100, Integer.MIN_VALUE, Integer.MAX_VALUE}) {
            dueThrows(x, "many " + bad, ARGUMENT, () -> x.trade(0, 0, bad, 1, 0, 0));
            dueThrows(x, "manyToo " + bad, ARGUMENT, () -> x.trade(0, 0, 0, 1, 0, bad));
        }
        dueThrows(x, "the same", ARGUMENT, () -> x.trade(3, 0, 0, 3, 0, 0));
        due("many 99", x.trade(0, 0, 99, 1, 0, 0), 1);
        due("manyToo 99", x.trade(0, 0, 0, 1, 0, 99), 2);
    }

    private static void worth() {
        StormPurses x = new StormPurses();
        due("worth(0, 9)", x.worth(0, 9), 1);
        due("worth(1, 1)", x.worth(1, 1), 2);
        due("worth(2, 5)", x.worth(2, 5), 5);
        due("worth(3, 3)", x.worth(3, 3), 9);
        due("worth(3, 9)", x.worth(3, 9), 3);
        due("islanderOf(0, 0)", x.islanderOf(0, 0), 90);
        due("islanderOf(1, 0)", x.islanderOf(1, 0), 10);
        due("count(9)", x.count(9), 5);
        for (int bad : new int[] {-1, 4, Integer.MAX_VALUE}) {
            dueThrows(x, "worth(" + bad + ", 1)", INDEX, () -> x.worth(bad, 1));
            dueThrows(x, "worth(" + bad + ", 0)", INDEX, () -> x.worth(bad, 0));
        }
        for (int bad : new int[] {-1, 0, 10, Integer.MIN_VALUE}) {
            dueThrows(x, "worth(0, " + bad + ")", ARGUMENT, () -> x.worth(0, bad));
        }
    }

    private static void set() {
        StormPurses x = new StormPurses();
        due("set(9)", x.set(9), 0);
        due("set(9)", x.set(9), 9);
        due("set(0)", x.set(0), 9);
        due("count(8)", x.count(8), 0);
        due("count(9)", x.count(9), 3);
        for (int bad : new int[] {-1, 10, Integer.MIN_VALUE, Integer.MAX_VALUE}) {
            dueThrows(x, "set(" + bad + ")", ARGUMENT, () -> x.set(bad));
        }
    }

    // ---- promises 7 and 8

    private static void promise() {
        StormPurses x = new StormPurses();
        storms(x, 3);
        for (int number = 0; number < 8; number++) {
            due("promise", x.promise(number, (number + 3) % 8, number + 1, number), number);
        }
        due("a ninth one", x.promise(0, 1, 1, 0), StormPurses.NONE);
        due("count(3)", x.count(3), 8);
        dueCounts(x, 0, 0, 0, 1);
        due("count(9)", x.count(9), 6);
        for (int number = 0; number < 8; number++) {
            due("promiseOf(.., 0)", x.promiseOf(number, 0), number);
            due("promiseOf(.., 1)", x.promiseOf(number, 1), (number + 3) % 8);
            due("promiseOf(.., 2)", x.promiseOf(number, 2), number + 1);
            due("promiseOf(.., 3)", x.promiseOf(number, 3), 3 + number);
        }
        x.storm();
        due("the number that is free again", x.promise(6, 7, 99, 9), 7);
        due("promiseOf(7, 3)", x.promiseOf(7, 3), 13);
        due("promiseOf(0, 2)", x.promiseOf(0, 2), 2);
    }

    private static void promiseWrongInputs() {
        StormPurses x = new StormPurses();
        for (int bad : new int[] {-1, 8, Integer.MIN_VALUE, Integer.MAX_VALUE}) {
            dueThrows(x, "from " + bad, INDEX, () -> x.promise(bad, 0, 1, 0));
            dueThrows(x, "to " + bad, INDEX, () -> x.promise(0, bad, 1, 0));
            dueThrows(x, "both " + bad, INDEX, () -> x.promise(bad, bad, 0, -1));
        }
        for (int bad : new int[] {-1, 0, 100, Integer.MAX_VALUE}) {
            dueThrows(x, "sum " + bad, ARGUMENT, () -> x.promise(0, 1, bad, 0));
        }
        for (int bad : new int[] {-1, 10, Integer.MAX_VALUE}) {
            dueThrows(x, "days " + bad, ARGUMENT, () -> x.promise(0, 1, 1, bad));
        }
        dueThrows(x, "the same", ARGUMENT, () -> x.promise(5, 5, 1, 0));
        for (int number = 0; number < 8; number++) {
            x.promise(0, 1, 1, 0);
        }
        dueThrows(x, "the same, with 8", ARGUMENT, () -> x.promise(5, 5, 1, 0));
    }

    private static void fulfil() {
        StormPurses x = new StormPurses();
        x.promise(1, 6, 8, 5);
        x.promise(3, 0, 90, 5);
        x.promise(0, 1, 1, 5);
        due("fulfil(1)", x.fulfil(1), 10);
        duePurse(x, 3, 0, 0, 0, 0);
        duePurse(x, 0, 10, 0, 0, 10);
        due("count(3)", x.count(3), 2);
        due("promiseOf(1, 2)", x.promiseOf(1, 2), 1);
        due("fulfil(0)", x.fulfil(0), 4);
        duePurse(x, 1, 0, 6, 0, 0);
        duePurse(x, 6, 0, 4, 10, 0);
        due("promiseOf(0, 2)", x.promiseOf(0, 2), 1);
        dueCounts(x, 0, 2, 0, 0);
        due("count(9)", x.count(9), 5);
        due("count(1)", x.count(1), 80);
        dueThrows(x, "fulfil(1)", INDEX, () -> x.fulfil(1));
        dueThrows(x, "fulfil(-1)", INDEX, () -> x.fulfil(-1));
        dueThrows(x, "fulfil(MAX)", INDEX, () -> x.fulfil(Integer.MAX_VALUE));
        x.storm();
        due("with the purse that came", x.fulfil(0), StormPurses.NONE);
        due("the purse that came", x.caps(0, 3), 10);
    }

    private static void fulfilChoosesAmongWays() {
        StormPurses x = mixed();
        duePurse(x, 0, 4, 2, 1, 1);
        x.promise(0, 5, 9, 0);
        due("one of the colour 3 before others", x.fulfil(0), 1);
        duePurse(x, 0, 4, 2, 1, 0);
        x.promise(0, 5, 9, 0);
        due("two of the colour 1 with one of 2", x.fulfil(0), 3);
        duePurse(x, 0, 4, 0, 0, 0);

        StormPurses y = mixed();
        y.worth(3, 4);
        y.worth(1, 3);
        y.worth(0, 2);
        y.promise(0, 5, 7, 0);
        due("4 + 3, not 5 + 2", y.fulfil(0), 2);
        duePurse(y, 0, 4, 1, 1, 0);

        StormPurses z = mixed();
        z.worth(0, 3);
        z.worth(1, 3);
        z.worth(2, 3);
        z.worth(3, 3);
        z.promise(0, 5, 9, 0);
        due("of equal worths the last colours", z.fulfil(0), 3);
        duePurse(z, 0, 4, 1, 0, 0);

        StormPurses fewer = mixed();
        fewer.worth(2, 6);
        fewer.worth(1, 6);
        fewer.promise(0, 5, 12, 0);
        due("6 + 6, not 9 + 1 + 1 + 1", fewer.fulfil(0), 2);
        duePurse(fewer, 0, 4, 1, 0, 1);
        duePurse(fewer, 5, 0, 11, 1, 0);
    }

    private static void fulfilRefused() {
        StormPurses x = new StormPurses();
        x.promise(1, 0, 7, 5);
        x.promise(1, 0, 22, 5);
        due("an odd sum of twos", x.fulfil(0), StormPurses.NONE);
        due("more than the purse", x.fulfil(1), StormPurses.NONE);
        due("count(3)", x.count(3), 2);
        dueCounts(x, 0, 0, 0, 2);
        due("count(9)", x.count(9), 4);
        duePurse(x, 1, 0, 10, 0, 0);
        storms(x, 1);
        due("with the purse of 0", x.fulfil(0), 7);
        duePurse(x, 0, 7, 0, 0, 10);
        duePurse(x, 1, 3, 0, 0, 0);
    }

    // ---- promises 9 to 12

    private static void append() {
        StormPurses x = new StormPurses();
        for (int bad : new int[] {-1, 0, 32, 127, 65536 + 's', Integer.MIN_VALUE}) {
            dueThrows(x, "append(" + bad + ")", ARGUMENT, () -> x.append(bad));
        }
        due("append(33)", x.append(33), 1);
        due("append(126)", x.append(126), 2);
        for (int length = 3; length <= 60; length++) {
            due("append", x.append('s'), length);
        }
        dueThrows(x, "append to 60", STATE, () -> x.append('s'));
        dueThrows(x, "append(32) to 60", ARGUMENT, () -> x.append(32));
        due("count(9)", x.count(9), 0);
        due("clearBuffer()", x.clearBuffer(), 60);
    }

    private static void clearBuffer() {
        StormPurses x = new StormPurses();
        due("clearBuffer()", x.clearBuffer(), 0);
        type(x, "x01");
        due("clearBuffer()", x.clearBuffer(), 3);
        due("clearBuffer()", x.clearBuffer(), 0);
        due("firstError()", x.firstError(), 0);
        due("append", x.append('s'), 1);
        due("firstError()", x.firstError(), 1);
        due("count(9)", x.count(9), 0);
    }

    private static int errorOf(String text) {
        StormPurses x = new StormPurses();
        type(x, text);
        return x.firstError();
    }

    private static void firstError() {
        String[] whole = {"", "s", "s;s", "x00", "x77", "p07=1/0", "p70=99/9", "p01=10/0", "k0", "k7",
            "s;x12;p34=56/7;k0", "k0;k0;s"};
        for (String text : whole) {
            due("whole: " + text, errorOf(text), text.length());
        }
        String[] begun = {"s;", "x", "x0", "p", "p0", "p01", "p01=", "p01=1", "p01=99", "p01=1/", "k", "k1;"};
        for (String text : begun) {
            due("begun: " + text, errorOf(text), text.length());
        }
    }

    /** The last character but those behind "!" is the first syntax error. */
    private static void firstErrorByPlace() {
        String[] texts = {";", "S", "1", "ss", "s,", "s;;", "x8", "x08", "x07s", "x01=", "xx",
            "p8", "p08", "p00", "p77", "p01s", "p01=0", "p01=/", "p01=;", "p01=1;", "p01=100", "p01=1s", "p01=99;",
            "p01=1//", "p01=1/s", "p01=1/;", "p01=1/00", "p01=1/0s", "k8", "k9", "k;", "k00", "k0s", "X", "P", "K",
            "s;x12;p34=56/7;k0;p11", "p0:", "k/", "x/", "p01=:", "p01=1:", "p01=1/:", "p01=1//", "s;k:"};
        for (String text : texts) {
            int last = text.length() - 1;
            due("error: " + text, errorOf(text), last);
            due("error: " + text + " and more", errorOf(text + "s;s"), last);
        }
        StringBuilder longText = new StringBuilder("s");
        while (longText.length() < 59) {
            longText.append(";s");
        }
        longText.append(';');
        due("no place for more, but no error", errorOf(longText.toString()), 60);
    }

    private static void run() {
        StormPurses x = new StormPurses();
        type(x, "p30=18/1;p12=9/0;x01;s;k0");
        due("run()", x.run(), 4);
        due("clearBuffer()", x.clearBuffer(), 0);
        due("count(0)", x.count(0), 1);
        due("islanderOf(0, 1)", x.islanderOf(0, 1), 2);
        due("count(3)", x.count(3), 1);
        dueCounts(x, 0, 0, 1, 1);
        due("promiseOf(0, 3)", x.promiseOf(0, 3), 1);
        due("count(9)", x.count(9), 1);
        due("undo()", x.undo(), 0);
        due("count(0)", x.count(0), 0);
        dueCounts(x, 0, 0, 0, 0);
        due("clearBuffer() behind undo()", x.clearBuffer(), 0);
        type(x, "p30=18/1;k0;p76=9/9;k0");
        due("run()", x.run(), 4);
        dueCounts(x, 0, 2, 0, 0);
        duePurse(x, 0, 10, 0, 0, 2);
        duePurse(x, 6, 0, 0, 10, 1);
        type(x, "p30=7/0");
        x.run();
        due("promiseOf(0, 2)", x.promiseOf(0, 2), 7);
        due("promiseOf(0, 3)", x.promiseOf(0, 3), 0);
        type(x, "s;s;s;s;s;s;s;s;s;s;s;s;s;s;s;s;s;s;s;s;s;s;s;s;s;s;s;s;s;s");
        due("thirty storms", x.run(), 30);
        due("count(0)", x.count(0), 30);
    }

    private static void runStops() {
        StormPurses x = new StormPurses();
        type(x, "k0;s");
        due("no such promise", x.run(), 0);
        dueCounts(x, 0, 0, 0, 0);
        due("count(9)", x.count(9), 1);
        due("count(0)", x.count(0), 0);
        due("clearBuffer()", x.clearBuffer(), 0);
        type(x, "p10=7/0;k0;s");
        due("refused to be kept", x.run(), 1);
        dueCounts(x, 0, 0, 0, 1);
        due("count(0)", x.count(0), 0);
        due("count(3)", x.count(3), 1);
        type(x, "p10=7/0;p10=7/0;p10=7/0;p10=7/0;p10=7/0;p10=7/0;p10=7/0");
        due("seven more", x.run(), 7);
        type(x, "s;p10=7/0;s");
        due("broken, and another one", x.run(), 3);
        type(x, "p10=7/0;p10=7/0;p10=7/0;p10=7/0;p10=7/0;p10=7/0;p10=7/0");
        x.run();
        type(x, "p01=5/9");
        due("the eighth one", x.run(), 1);
        type(x, "x01;p01=1/9;s");
        due("a ninth one is refused", x.run(), 1);
        dueCounts(x, 0, 0, 9, 2);
        due("count(0)", x.count(0), 2);
        type(x, "k7");
        due("kept", x.run(), 1);
    }

    private static void runWrongInputs() {
        StormPurses x = new StormPurses();
        dueThrows(x, "run() of nothing", ARGUMENT, () -> x.run());
        String[] texts = {"s;", "x", "x0", "p01=1/", "p01=1", "k", "ss", "p11=1/0", ";", "k0;;", "s;q"};
        for (String text : texts) {
            x.clearBuffer();
            type(x, text);
            dueThrows(x, "run() of " + text, ARGUMENT, () -> x.run());
            due("the buffer stays", x.clearBuffer(), text.length());
        }
        due("count(9)", x.count(9), 0);
    }

    // ---- promises 13 to 15

    private static void keep() {
        StormPurses x = new StormPurses();
        due("keep(0)", x.keep(0), 0);
        storms(x, 2);
        due("keep(1)", x.keep(1), 2);
        due("count(9)", x.count(9), 2);
        x.storm();
        due("keep(0) again", x.keep(0), 3);
        x.storm();
        due("goBack(0)", x.goBack(0), 3);
        due("goBack(1)", x.goBack(1), 2);
        for (int bad : new int[] {-1, 2, Integer.MAX_VALUE}) {
            dueThrows(x, "keep(" + bad + ")", ARGUMENT, () -> x.keep(bad));
        }
    }

    private static void goBack() {
        StormPurses x = new StormPurses();
        dueThrows(x, "goBack(-1)", ARGUMENT, () -> x.goBack(-1));
        dueThrows(x, "goBack(2)", ARGUMENT, () -> x.goBack(2));
        dueThrows(x, "goBack(1)", STATE, () -> x.goBack(1));
        x.set(2);
        x.promise(0, 1, 5, 3);
        x.worth(1, 4);
        x.cross(0, 3);
        x.trade(0, 0, 11, 1, 0, 0);
        x.keep(1);
        x.trade(0, 0, 4, 1, 1, 1);
        x.fulfil(0);
        x.set(7);
        x.worth(1, 9);
        x.cross(0, 3);
        x.storm();
        x.promise(1, 0, 3, 3);
        type(x, "s;");
        due("goBack(1)", x.goBack(1), 0);
        due("count(8)", x.count(8), 2);
        due("count(3)", x.count(3), 1);
        due("promiseOf(0, 2)", x.promiseOf(0, 2), 5);
        due("islanderOf(0, 1)", x.islanderOf(0, 1), 4);
        due("islanderOf(1, 0)", x.islanderOf(1, 0), 40);
        duePurse(x, 0, 10, 0, 0, 0);
        dueCounts(x, 0, 0, 0, 1);
        due("count(9)", x.count(9), 6);
        due("the buffer stays", x.clearBuffer(), 2);
        x.storm();
        due("the snapshot stays", x.goBack(1), 0);
        dueThrows(x, "goBack(0)", STATE, () -> x.goBack(0));
        due("undo()", x.undo(), 5);
        due("count(0)", x.count(0), 1);
        due("undo()", x.undo(), 4);
        due("undo()", x.undo(), 3);
        due("count(8) before goBack", x.count(8), 7);
        due("count(3) before goBack", x.count(3), 1);
        due("promiseOf(0, 2) before goBack", x.promiseOf(0, 2), 3);
        due("the slot behind undo()", x.goBack(1), 0);
    }

    private static void undo() {
        StormPurses x = new StormPurses();
        storms(x, 9);
        due("count(9)", x.count(9), 6);
        for (int left = 5; left >= 0; left--) {
            due("undo()", x.undo(), left);
            due("count(0)", x.count(0), 3 + left);
            due("count(9)", x.count(9), left);
        }
        dueThrows(x, "undo()", STATE, () -> x.undo());
        due("count(0)", x.count(0), 3);
        x.storm();
        due("undo()", x.undo(), 0);
        duePurse(x, 3, 10, 0, 0, 0);
        type(x, "s");
        x.storm();
        x.keep(0);
        x.undo();
        due("the slot stays", x.goBack(0), 4);
        due("the buffer stays", x.clearBuffer(), 1);
    }

    /** Each undoable method saves one state, which is the one from before it; the others save none. */
    private static void undoOfEachMethod() {
        StormPurses x = mixed();
        for (int number = 0; number < 8; number++) {
            x.promise(0, 1, number + 1, 0);
        }
        x.keep(0);
        x.undo();
        x.undo();
        dueUndo(x, "storm", () -> x.storm());
        dueUndo(x, "cross", () -> x.cross(1, 4));
        dueUndo(x, "cross of one", () -> x.cross(1, 1));
        dueUndo(x, "trade", () -> x.trade(0, 0, 1, 4, 0, 1));
        dueUndo(x, "trade with effect", () -> x.trade(0, 0, 2, 5, 1, 1));
        dueUndo(x, "trade refused", () -> x.trade(0, 0, 99, 4, 0, 1));
        dueUndo(x, "worth", () -> x.worth(0, 8));
        dueUndo(x, "worth as before", () -> x.worth(0, 1));
        dueUndo(x, "set", () -> x.set(4));
        dueUndo(x, "set as before", () -> x.set(9));
        dueUndo(x, "promise", () -> x.promise(3, 4, 5, 6));
        dueUndo(x, "fulfil", () -> x.fulfil(2));
        dueUndo(x, "goBack", () -> x.goBack(0));
        dueUndo(x, "run", () -> {
            type(x, "k0;x01;s;p01=1/0");
            x.run();
        });
        dueUndo(x, "run of none", () -> {
            type(x, "k7");
            x.run();
        });
        x.goBack(0);
        x.undo();
        x.undo();
        x.goBack(0);
        x.undo();
        int saved = x.count(9);
        x.clearBuffer();
        type(x, "s");
        x.firstError();
        x.keep(1);
        x.digest();
        due("the others save none", x.count(9), saved);
    }

    private static void dueUndo(StormPurses x, String call, Call made) {
        long before = x.digest();
        int saved = x.count(9);
        made.go();
        due(call + ": count(9)", x.count(9), saved + 1);
        due(call + ": undo()", x.undo(), saved);
        due(call + ": digest()", x.digest(), before);
    }

    // ---- promises 16 to 20

    private static void caps() {
        StormPurses x = mixed();
        duePurse(x, 0, 4, 2, 1, 1);
        duePurse(x, 1, 2, 8, 0, 0);
        duePurse(x, 7, 0, 0, 0, 10);
        for (int bad : new int[] {-1, 8, Integer.MAX_VALUE}) {
            dueThrows(x, "caps(" + bad + ", 0)", INDEX, () -> x.caps(bad, 0));
        }
        for (int bad : new int[] {-1, 4, Integer.MAX_VALUE}) {
            dueThrows(x, "caps(0, " + bad + ")", INDEX, () -> x.caps(0, bad));
        }
    }

    private static void islanderOf() {
        StormPurses x = mixed();
        due("islanderOf(0, 0)", x.islanderOf(0, 0), 4 + 2 * 2 + 5 + 9);
        x.cross(0, 3);
        due("islanderOf(0, 1)", x.islanderOf(0, 1), 4);
        due("islanderOf(0, 2)", x.islanderOf(0, 2), 5);
        due("islanderOf(1, 2)", x.islanderOf(1, 2), 3);
        due("islanderOf(3, 2)", x.islanderOf(3, 2), 3);
        x.cross(1, 2);
        due("islanderOf(2, 2)", x.islanderOf(2, 2), 1);
        due("islanderOf(1, 2)", x.islanderOf(1, 2), 2);
        x.promise(0, 1, 5, 0);
        x.promise(0, 2, 7, 0);
        x.promise(1, 0, 11, 0);
        due("islanderOf(0, 3)", x.islanderOf(0, 3), 12);
        due("islanderOf(0, 4)", x.islanderOf(0, 4), 11);
        due("islanderOf(2, 3)", x.islanderOf(2, 3), 0);
        due("islanderOf(2, 4)", x.islanderOf(2, 4), 7);
        for (int bad : new int[] {-1, 8}) {
            dueThrows(x, "islanderOf(" + bad + ", 0)", INDEX, () -> x.islanderOf(bad, 0));
            dueThrows(x, "islanderOf(" + bad + ", 5)", INDEX, () -> x.islanderOf(bad, 5));
        }
        for (int bad : new int[] {-1, 5, Integer.MAX_VALUE}) {
            dueThrows(x, "islanderOf(0, " + bad + ")", ARGUMENT, () -> x.islanderOf(0, bad));
        }
    }

    private static void promiseOf() {
        StormPurses x = mixed();
        storms(x, 8);
        x.promise(0, 5, 19, 9);
        due("promiseOf(0, 0)", x.promiseOf(0, 0), 0);
        due("promiseOf(0, 1)", x.promiseOf(0, 1), 5);
        due("promiseOf(0, 2)", x.promiseOf(0, 2), 19);
        due("promiseOf(0, 3)", x.promiseOf(0, 3), 17);
        due("promiseOf(0, 4)", x.promiseOf(0, 4), 5);
        x.storm();
        due("promiseOf(0, 3)", x.promiseOf(0, 3), 17);
        due("promiseOf(0, 4) with the other purse", x.promiseOf(0, 4), StormPurses.NONE);
        for (int bad : new int[] {-1, 1, 8, Integer.MAX_VALUE}) {
            dueThrows(x, "promiseOf(" + bad + ", 0)", INDEX, () -> x.promiseOf(bad, 0));
            dueThrows(x, "promiseOf(" + bad + ", 5)", INDEX, () -> x.promiseOf(bad, 5));
        }
        for (int bad : new int[] {-1, 5, Integer.MAX_VALUE}) {
            dueThrows(x, "promiseOf(0, " + bad + ")", ARGUMENT, () -> x.promiseOf(0, bad));
        }
    }

    private static void owed() {
        StormPurses x = new StormPurses();
        x.promise(0, 1, 5, 0);
        x.promise(1, 0, 7, 1);
        x.promise(0, 1, 99, 2);
        x.promise(0, 2, 1, 2);
        due("owed(0, 1)", x.owed(0, 1), 104);
        due("owed(1, 0)", x.owed(1, 0), 7);
        due("owed(0, 2)", x.owed(0, 2), 1);
        due("owed(2, 0)", x.owed(2, 0), 0);
        due("owed(0, 0)", x.owed(0, 0), 0);
        x.storm();
        due("owed(0, 1)", x.owed(0, 1), 99);
        for (int bad : new int[] {-1, 8, Integer.MAX_VALUE}) {
            dueThrows(x, "owed(" + bad + ", 0)", INDEX, () -> x.owed(bad, 0));
            dueThrows(x, "owed(0, " + bad + ")", INDEX, () -> x.owed(0, bad));
        }
    }

    private static void count() {
        StormPurses x = mixed();
        x.promise(0, 1, 1, 0);
        x.promise(0, 1, 1, 0);
        x.fulfil(0);
        x.promise(2, 1, 4, 4);
        x.fulfil(1);
        x.storm();
        x.worth(0, 2);
        x.trade(5, 0, 1, 6, 0, 1);
        int[] counts = {1, 80, 360, 1, 3, 1, 1, 2, 9, 6};
        for (int what = 0; what < 10; what++) {
            due("count(" + what + ")", x.count(what), counts[what]);
        }
        for (int bad : new int[] {-1, 10, Integer.MIN_VALUE, Integer.MAX_VALUE}) {
            dueThrows(x, "count(" + bad + ")", ARGUMENT, () -> x.count(bad));
        }
    }

    // ---- promises 21 to 27

    private static void where() {
        StormPurses x = new StormPurses();
        x.cross(0, 3);
        x.cross(5, 6);
        int[] afterOne = {4, 2, 3, 1, 5, 7, 6, 0};
        int[] afterThousand = {0, 2, 3, 1, 4, 5, 6, 7};
        for (int what = 0; what < 2; what++) {
            for (int islander = 0; islander < 8; islander++) {
                due("where(.., 0)", x.where(islander, 0, what), islander);
                due("where(.., 1)", x.where(islander, 1, what), afterOne[islander]);
                due("where(.., 1000)", x.where(islander, 1000, what), afterThousand[islander]);
            }
        }
        due("count(9)", x.count(9), 2);
        for (int bad : new int[] {-1, 8, Integer.MAX_VALUE}) {
            dueThrows(x, "where(" + bad + ", 0, 0)", INDEX, () -> x.where(bad, 0, 0));
            dueThrows(x, "where(" + bad + ", -1, 2)", INDEX, () -> x.where(bad, -1, 2));
        }
        for (int bad : new int[] {-1, 1001, Integer.MAX_VALUE}) {
            dueThrows(x, "where(0, " + bad + ", 0)", ARGUMENT, () -> x.where(0, bad, 0));
            dueThrows(x, "where(0, " + bad + ", 1)", ARGUMENT, () -> x.where(0, bad, 1));
        }
        for (int bad : new int[] {-1, 2, Integer.MAX_VALUE}) {
            dueThrows(x, "where(0, 0, " + bad + ")", ARGUMENT, () -> x.where(0, 0, bad));
        }
    }

    private static void dueHome(StormPurses x, int want) {
        due("homeIn(0)", x.homeIn(0), want);
        due("homeIn(1)", x.homeIn(1), want);
    }

    private static void homeIn() {
        StormPurses x = new StormPurses();
        dueHome(x, 8);
        x.cross(0, 3);
        dueHome(x, 15);
        x.cross(0, 3);
        x.cross(0, 4);
        dueHome(x, 4);
        x.cross(0, 5);
        dueHome(x, 12);
        for (int islander = 0; islander < 8; islander++) {
            lead(x, islander, islander);
        }
        dueHome(x, 1);
        duePurse(x, 4, 10, 0, 0, 0);
        for (int bad : new int[] {-1, 2, Integer.MAX_VALUE}) {
            dueThrows(x, "homeIn(" + bad + ")", ARGUMENT, () -> x.homeIn(bad));
        }
    }

    private static void dueFewest(StormPurses x, int islander, int sum, int want) {
        due("fewest(" + islander + ", " + sum + ", 0)", x.fewest(islander, sum, 0), want);
        due("fewest(" + islander + ", " + sum + ", 1)", x.fewest(islander, sum, 1), want);
    }

    private static void fewest() {
        StormPurses x = mixed();
        int[] want = {1, 1, 2, 2, 1, 2, 2, 3, 1, 2, 2, 3, 3, 2, 3, 3, 4, 4, 5, 6, 7, 8, -1};
        for (int sum = 1; sum <= want.length; sum++) {
            dueFewest(x, 0, sum, want[sum - 1]);
        }
        dueFewest(x, 0, 99, -1);
        dueFewest(x, 7, 90, 10);
        dueFewest(x, 7, 91, -1);
        dueFewest(x, 7, 99, -1);
        dueFewest(x, 1, 18, 10);
        x.worth(3, 6);
        x.worth(2, 4);
        x.worth(1, 4);
        dueFewest(x, 0, 8, 2);
        for (int bad : new int[] {-1, 8, Integer.MAX_VALUE}) {
            dueThrows(x, "fewest(" + bad + ", 1, 0)", INDEX, () -> x.fewest(bad, 1, 0));
            dueThrows(x, "fewest(" + bad + ", 0, 2)", INDEX, () -> x.fewest(bad, 0, 2));
        }
        for (int bad : new int[] {-1, 0, 100, Integer.MAX_VALUE}) {
            dueThrows(x, "fewest(0, " + bad + ", 0)", ARGUMENT, () -> x.fewest(0, bad, 0));
            dueThrows(x, "fewest(0, " + bad + ", 1)", ARGUMENT, () -> x.fewest(0, bad, 1));
        }
        for (int bad : new int[] {-1, 2, Integer.MAX_VALUE}) {
            dueThrows(x, "fewest(0, 1, " + bad + ")", ARGUMENT, () -> x.fewest(0, 1, bad));
        }
    }

    private static void richest() {
        StormPurses x = new StormPurses();
        due("of 3 and 7 the lowest", x.richest(), 3);
        x.storm();
        due("of 0 and 4 the lowest", x.richest(), 0);
        x.worth(3, 1);
        x.worth(2, 1);
        due("of 2 and 6 the lowest", x.richest(), 2);
        x.trade(2, 1, 1, 1, 0, 2);
        due("still", x.richest(), 2);
        x.set(2);
        x.trade(2, 1, 1, 1, 0, 0);
        due("another one", x.richest(), 6);
    }

    private static void canKeepIn() {
        StormPurses x = new StormPurses();
        x.promise(0, 1, 45, 9);
        due("with the purse of 7", x.canKeepIn(0), 1);
        x.undo();
        x.promise(4, 1, 25, 2);
        due("the purse of 2 comes on the day", x.canKeepIn(0), 2);
        x.undo();
        x.promise(4, 1, 25, 1);
        due("the purse of 2 comes too late", x.canKeepIn(0), StormPurses.NONE);
        x.undo();
        x.promise(4, 1, 10, 0);
        due("now", x.canKeepIn(0), 0);
        x.undo();
        x.promise(4, 1, 99, 9);
        due("never", x.canKeepIn(0), StormPurses.NONE);
        x.undo();
        x.trade(5, 1, 1, 4, 0, 2);
        x.promise(5, 1, 25, 9);
        x.storm();
        due("the purse of 2 comes to 5 on the third day", x.canKeepIn(0), 2);
        due("nothing is changed", x.count(0), 1);
        due("fulfil(0)", x.fulfil(0), StormPurses.NONE);
        storms(x, 2);
        due("canKeepIn(0)", x.canKeepIn(0), 0);
        due("fulfil(0)", x.fulfil(0), 5);
        StormPurses back = new StormPurses();
        for (int islander = 0; islander < 8; islander++) {
            lead(back, islander, (islander + 7) % 8);
        }
        back.promise(0, 1, 90, 9);
        due("the purse of 3 comes to 0 by the path back", back.canKeepIn(0), 3);
        for (int bad : new int[] {-1, 1, 8, Integer.MAX_VALUE}) {
            dueThrows(back, "canKeepIn(" + bad + ")", INDEX, () -> back.canKeepIn(bad));
        }
    }

    private static void richShare() {
        StormPurses x = new StormPurses();
        dueShare("richShare()", x.richShare(), 90.0 / 340.0);
        for (int colour = 0; colour < 4; colour++) {
            x.worth(colour, 7);
        }
        dueShare("richShare()", x.richShare(), 0.125);
        x.set(9);
        x.trade(0, 0, 1, 1, 0, 0);
        dueShare("richShare()", x.richShare(), 77.0 / 560.0);
    }

    private static void digest() {
        int[] atFirst = {1, 2, 5, 9};
        dueDigest(digested(0), atFirst, 0, 0, "");
        dueDigest(digested(1), atFirst, 0, 1, "s;p01=5/7");
        dueDigest(digested(2), atFirst, 1, 1, "~!");
        dueDigest(digested(3), new int[] {7, 6, 5, 4}, 1, 1, "~!");
    }

    /** Behind so many steps, on an object of its own, as each digest is compared by some 300 calls. */
    private static StormPurses digested(int steps) {
        StormPurses x = mixed();
        if (steps >= 1) {
            x.promise(0, 1, 19, 4);
            x.promise(3, 6, 9, 9);
            x.promise(5, 2, 99, 0);
            x.keep(1);
            type(x, "s;p01=5/7");
            x.cross(2, 6);
        }
        if (steps >= 2) {
            x.run();
            x.keep(0);
            type(x, "~!");
        }
        for (int colour = 0; steps >= 3 && colour < 4; colour++) {
            x.worth(colour, 7 - colour);
        }
        return x;
    }
}
