/** Each sentence of "Promise 1" to "Promise 27" that names a boundary case has a test of its own here. */
public final class PromiseBoundsTest extends Checks {
    private static final int[] WORTHS = {1, 2, 5, 9};

    public static void main(String[] args) {
        stormsAndTrades();
        promises();
        texts();
        snapshots();
        looks();
        ahead();
        end();
    }

    private static void stormsAndTrades() {
        test("1: on the day 0", () -> due("count(0)", new StormPurses().count(0), 0));
        test("1: without promises", PromiseBoundsTest::newWithoutPromises);
        test("1: with empty slots", PromiseBoundsTest::newWithEmptySlots);
        test("1: an empty buffer", () -> due("clearBuffer()", new StormPurses().clearBuffer(), 0));
        test("1: nothing counted and nothing saved", PromiseBoundsTest::newCounts);
        test("1: an island of its own", PromiseBoundsTest::newOfItsOwn);
        test("2: how many are broken: none", () -> due("storm()", new StormPurses().storm(), 0));
        test("2: how many are broken: some", PromiseBoundsTest::someBroken);
        test("2: how many are broken: all 8", PromiseBoundsTest::allBroken);
        test("2: if the day is 9999", PromiseBoundsTest::lastDay);
        test("3: islander, 0 to 7", () -> needs(0, 7, INDEX, (x, v) -> x.cross(v, 3)));
        test("3: other, 0 to 7", () -> needs(0, 7, INDEX, (x, v) -> x.cross(3, v)));
        test("3: perhaps the same", PromiseBoundsTest::crossOfOne);
        test("3: to whom it leads then", PromiseBoundsTest::crossOfLast);
        test("4: first, 0 to 7", () -> needs(0, 7, INDEX, (x, v) -> x.trade(v, 0, 0, 3, 0, 0)));
        test("4: colour, 0 to 3", () -> needs(0, 3, INDEX, (x, v) -> x.trade(3, v, 0, 4, 0, 0)));
        test("4: many, 0 to 99", () -> needs(0, 99, ARGUMENT, (x, v) -> x.trade(0, 0, v, 1, 0, 0)));
        test("4: second, 0 to 7", () -> needs(0, 7, INDEX, (x, v) -> x.trade(3, 0, 0, v, 0, 0)));
        test("4: another islander", PromiseBoundsTest::tradeOfOne);
        test("4: colourToo, 0 to 3", () -> needs(0, 3, INDEX, (x, v) -> x.trade(3, 0, 0, 4, v, 0)));
        test("4: manyToo, 0 to 99", () -> needs(0, 99, ARGUMENT, (x, v) -> x.trade(0, 0, 0, 1, 0, v)));
        test("4: 0 if it is made", PromiseBoundsTest::tradeIsMade);
        test("4: otherwise the reason", PromiseBoundsTest::tradeIsRefused);
        test("4: many at its ends", PromiseBoundsTest::tradeOfMany);
        test("5: colour, 0 to 3", () -> needs(0, 3, INDEX, (x, v) -> x.worth(v, 3)));
        test("5: worth, 1 to 9", () -> needs(1, 9, ARGUMENT, (x, v) -> x.worth(2, v)));
        test("5: the worth before", PromiseBoundsTest::worthBefore);
        test("6: value, 0 to 9", () -> needs(0, 9, ARGUMENT, StormPurses::set));
        test("6: the previous value", PromiseBoundsTest::valueBefore);
    }

    private static void promises() {
        test("7: from, 0 to 7", () -> needs(0, 7, INDEX, (x, v) -> x.promise(v, 3, 1, 0)));
        test("7: to, 0 to 7", () -> needs(0, 7, INDEX, (x, v) -> x.promise(3, v, 1, 0)));
        test("7: another islander", PromiseBoundsTest::promiseToOneself);
        test("7: sum, 1 to 99", () -> needs(1, 99, ARGUMENT, (x, v) -> x.promise(0, 1, v, 0)));
        test("7: days, 0 to 9", () -> needs(0, 9, ARGUMENT, (x, v) -> x.promise(0, 1, 1, v)));
        test("7: from now", PromiseBoundsTest::daysFromNow);
        test("7: its number", PromiseBoundsTest::numberOfPromise);
        test("7: NONE if it is refused, as there are 8", PromiseBoundsTest::ninthPromise);
        test("7: a wrong one throws with 8, too", PromiseBoundsTest::wrongNinthPromise);
        test("8: number, without promises", () -> noNumber(0));
        test("8: number, with one", () -> noNumber(1));
        test("8: number, with 8", () -> noNumber(8));
        test("8: how many caps are given: one", () -> gives(3, 9, 1));
        test("8: how many caps are given: all", () -> gives(0, 10, 10));
        test("8: NONE if it is refused: more than the purse", () -> gives(0, 11, StormPurses.NONE));
        test("8: NONE if it is refused: less than a cap", () -> gives(3, 8, StormPurses.NONE));
        test("8: what is refused is counted", PromiseBoundsTest::refusedFulfil);
    }

    private static void texts() {
        test("9: code, 33 to 126", () -> needs(33, 126, ARGUMENT, StormPurses::append));
        test("9: the new length", PromiseBoundsTest::lengths);
        test("9: if the buffer has 60 characters", PromiseBoundsTest::fullBuffer);
        test("10: the length of an empty buffer", PromiseBoundsTest::clearTwice);
        test("10: the length of a full buffer", PromiseBoundsTest::clearFull);
        test("11: the first character", PromiseBoundsTest::errorAtFirst);
        test("11: the last character", PromiseBoundsTest::errorAtLast);
        test("11: the length if there is none: empty", PromiseBoundsTest::noErrorInNothing);
        test("11: the length if there is none: full", PromiseBoundsTest::noErrorInFull);
        test("12: all are done", PromiseBoundsTest::runsAll);
        test("12: none is done", PromiseBoundsTest::runsNone);
        test("12: as storm() does: broken promises stop nothing", PromiseBoundsTest::runBreaks);
        test("12: as cross() does: the same islander twice", PromiseBoundsTest::runCrossesOne);
        test("12: as promise() does: least and most", PromiseBoundsTest::runPromises);
        test("12: as fulfil() does: by the numbers of then", PromiseBoundsTest::runKeeps);
        test("12: up to the first one that is refused: promise", PromiseBoundsTest::runRefusesPromise);
        test("12: up to the first one that is refused: fulfil", PromiseBoundsTest::runRefusesFulfil);
        test("12: or whose method would throw", PromiseBoundsTest::runWouldThrow);
        test("12: clears the buffer also if none is done", PromiseBoundsTest::runClears);
        test("12: undoable as one call", PromiseBoundsTest::runIsOneCall);
        test("12: undoable also if none is done", PromiseBoundsTest::runOfNoneIsSaved);
        test("12: if the buffer is empty", PromiseBoundsTest::runOfEmpty);
        test("12: if the buffer does not tell orders", PromiseBoundsTest::runOfNoOrders);
    }

    private static void snapshots() {
        test("13: slot, 0 or 1", () -> needs(0, 1, ARGUMENT, StormPurses::keep));
        test("13: in place of the one in the slot", PromiseBoundsTest::keepsInPlace);
        test("13: the day", PromiseBoundsTest::keepTellsDay);
        test("13: not undoable", PromiseBoundsTest::keepSavesNothing);
        test("14: slot, 0 or 1", PromiseBoundsTest::slotsToGoBackTo);
        test("14: a snapshot, which stays", PromiseBoundsTest::snapshotStays);
        test("14: the day then", PromiseBoundsTest::goBackTellsDay);
        test("14: if there is no snapshot in it", PromiseBoundsTest::noSnapshot);
        test("14: undoable", PromiseBoundsTest::goBackIsUndone);
        test("15: the latest one, and drops it", PromiseBoundsTest::undoesLatest);
        test("15: how many are left: none", PromiseBoundsTest::undoesOnlyOne);
        test("15: how many are left: five", PromiseBoundsTest::undoesSixth);
        test("15: if there is none", PromiseBoundsTest::nothingToUndo);
    }

    private static void looks() {
        test("16: islander, 0 to 7", () -> needs(0, 7, INDEX, (x, v) -> x.caps(v, 0)));
        test("16: colour, 0 to 3", () -> needs(0, 3, INDEX, (x, v) -> x.caps(0, v)));
        test("16: none and all caps of a colour", PromiseBoundsTest::capsOfRichest);
        test("17: islander, 0 to 7", () -> needs(0, 7, INDEX, (x, v) -> x.islanderOf(v, 4)));
        test("17: what, 0 to 4", () -> needs(0, 4, ARGUMENT, (x, v) -> x.islanderOf(7, v)));
        test("17, 0: the worth of an empty purse, and of all", PromiseBoundsTest::worthOfPurses);
        test("17, 1: from the last one to the first one", PromiseBoundsTest::pathOfLast);
        test("17, 2: a circle of one, and of all", PromiseBoundsTest::circlesOfEachLength);
        test("17, 3 and 4: nothing, and eight times 99", PromiseBoundsTest::promisedTogether);
        test("18: number, without promises", () -> noPromiseOf(0));
        test("18: number, with one", () -> noPromiseOf(1));
        test("18: number, with 8", () -> noPromiseOf(8));
        test("18: what, 0 to 4", PromiseBoundsTest::whatOfPromise);
        test("18, 2: the least and the most sum", PromiseBoundsTest::sumsOfPromises);
        test("18, 3: due today, and nine days on", PromiseBoundsTest::daysOfPromises);
        test("18, 4: NONE if it could not", PromiseBoundsTest::capsForPromise);
        test("19: from, 0 to 7", () -> needs(0, 7, INDEX, (x, v) -> x.owed(v, 0)));
        test("19: to, 0 to 7", () -> needs(0, 7, INDEX, (x, v) -> x.owed(0, v)));
        test("19: all promises, from the one to the other one", PromiseBoundsTest::owedTogether);
        test("19: from one to the same", PromiseBoundsTest::owedToOneself);
        test("20: what, 0 to 9", () -> needs(0, 9, ARGUMENT, StormPurses::count));
        test("20, 1: caps are neither made nor lost", PromiseBoundsTest::capsStay);
        test("20, 2: all of the least and the most worth", PromiseBoundsTest::worthOfAll);
        test("20, 4: a trade that is refused is none", PromiseBoundsTest::refusedTradeIsNone);
        test("20, 9: no more than 6", PromiseBoundsTest::savedStates);
        test("nothing is changed", PromiseBoundsTest::looksChangeNothing);
    }

    private static void ahead() {
        test("21: islander, 0 to 7", () -> needs(0, 7, INDEX, (x, v) -> x.where(v, 5, 1)));
        test("21: storms, 0 to 1000, one by one", () -> needs(0, 1000, ARGUMENT, (x, v) -> x.where(0, v, 0)));
        test("21: storms, 0 to 1000, by circles", () -> needs(0, 1000, ARGUMENT, (x, v) -> x.where(0, v, 1)));
        test("21: what, 0 or 1", () -> needs(0, 1, ARGUMENT, (x, v) -> x.where(0, 5, v)));
        test("21: no storm, one and round the circle", PromiseBoundsTest::roundCircle);
        test("21, 22, 17: all ways to make circles", () -> circlesOf(8, 8, ""));
        test("22: what, 0 or 1", () -> needs(0, 1, ARGUMENT, StormPurses::homeIn));
        test("22: 1 at least", PromiseBoundsTest::homeAtOnce);
        test("22: most storms", PromiseBoundsTest::homeAtLast);
        test("23: islander, 0 to 7", () -> needs(0, 7, INDEX, (x, v) -> x.fewest(v, 9, 0)));
        test("23: sum, 1 to 99, colour by colour", () -> needs(1, 99, ARGUMENT, (x, v) -> x.fewest(0, v, 0)));
        test("23: sum, 1 to 99, by trying", () -> needs(1, 99, ARGUMENT, (x, v) -> x.fewest(0, v, 1)));
        test("23: what, 0 or 1", () -> needs(0, 1, ARGUMENT, (x, v) -> x.fewest(0, 9, v)));
        test("23: just so much", PromiseBoundsTest::fewestOfEachSum);
        test("23: no more caps than the purse has", PromiseBoundsTest::fewestWithinPurse);
        test("23: NONE out of an empty purse", PromiseBoundsTest::fewestOfNothing);
        test("23: out of all caps", PromiseBoundsTest::fewestOfAll);
        test("24: of several the lowest", PromiseBoundsTest::lowestOfRichest);
        test("24: the last one", PromiseBoundsTest::lastIsRichest);
        test("24: whoever it is", PromiseBoundsTest::eachIsRichest);
        test("25: number, without promises", () -> noWait(0));
        test("25: number, with one", () -> noWait(1));
        test("25: number, with 8", () -> noWait(8));
        test("25: 0 if now", PromiseBoundsTest::canKeepNow);
        test("25: the fewest storms", PromiseBoundsTest::canKeepSoon);
        test("25: before it is broken", PromiseBoundsTest::canKeepOnLastDay);
        test("25: NONE if there are none", PromiseBoundsTest::canNeverKeep);
        test("26: all purses of one worth", PromiseBoundsTest::leastShare);
        test("26: one purse with all caps", PromiseBoundsTest::mostShare);
        test("26: all numbers are integers, but for a share", PromiseBoundsTest::shareOfOdd);
        test("27: a new island", () -> dueDigest(new StormPurses(), WORTHS, 0, 0, ""));
        test("27: without a buffer, and with a full one", PromiseBoundsTest::digestOfBuffer);
        test("27: for each slot", PromiseBoundsTest::digestOfSlots);
        test("27: for each promise, up to 8", PromiseBoundsTest::digestOfPromises);
        test("27: the share of one with all caps", () -> dueDigest(oneHasAll(), WORTHS, 0, 0, ""));
    }

    // ---- helpers

    private interface Taking {
        void go(StormPurses x, int value);
    }

    /** The ends of the range are taken, and what lies beside it throws. */
    private static void needs(int least, int most, Class<?> beside, Taking call) {
        StormPurses x = new StormPurses();
        dueRange(x, least, most, beside, value -> call.go(x, value));
    }

    /** So many promises of the islander 0 to 1, of the sum 9, due in nine days. */
    private static StormPurses promised(int many) {
        StormPurses x = new StormPurses();
        for (int number = 0; number < many; number++) {
            x.promise(0, 1, 9, 9);
        }
        return x;
    }

    /** The islander 7 gets all 80 caps; the worths are as at first. */
    private static StormPurses oneHasAll() {
        StormPurses x = new StormPurses();
        x.set(9);
        for (int colour = 1; colour < 4; colour++) {
            x.worth(colour, 1);
        }
        for (int islander = 0; islander < 7; islander++) {
            x.trade(islander, islander % 4, 9, 7, 0, 0);
            x.trade(islander, islander % 4, 1, 7, 0, 0);
        }
        for (int colour = 1; colour < 4; colour++) {
            x.worth(colour, WORTHS[colour]);
        }
        return x;
    }

    // ---- promises 1 to 6

    private static void newWithoutPromises() {
        StormPurses x = new StormPurses();
        due("count(3)", x.count(3), 0);
        dueThrows(x, "promiseOf(0, 0)", INDEX, () -> x.promiseOf(0, 0));
        due("the first promise", x.promise(0, 1, 1, 0), 0);
    }

    private static void newWithEmptySlots() {
        StormPurses x = new StormPurses();
        dueThrows(x, "goBack(0)", STATE, () -> x.goBack(0));
        dueThrows(x, "goBack(1)", STATE, () -> x.goBack(1));
    }

    private static void newCounts() {
        StormPurses x = new StormPurses();
        dueCounts(x, 0, 0, 0, 0);
        due("count(9)", x.count(9), 0);
        dueThrows(x, "undo()", STATE, x::undo);
    }

    private static void newOfItsOwn() {
        StormPurses other = new StormPurses();
        long before = other.digest();
        StormPurses one = new StormPurses();
        one.storm();
        one.worth(0, 9);
        one.cross(0, 5);
        one.keep(0);
        type(one, "s");
        due("digest() of one made before", other.digest(), before);
        due("digest() of one made behind", new StormPurses().digest(), before);
    }

    private static void someBroken() {
        StormPurses x = new StormPurses();
        x.promise(0, 1, 1, 0);
        x.promise(0, 1, 1, 1);
        x.promise(0, 1, 1, 0);
        due("storm()", x.storm(), 2);
        due("storm()", x.storm(), 1);
        due("storm()", x.storm(), 0);
        due("count(6)", x.count(6), 3);
        due("count(7)", x.count(7), 0);
    }

    private static void allBroken() {
        StormPurses x = promised(8);
        storms(x, 9);
        due("count(6)", x.count(6), 0);
        due("storm()", x.storm(), 8);
        due("count(6)", x.count(6), 8);
        due("count(3)", x.count(3), 0);
    }

    /** The day 9999 lies behind 512 calls, where answers are free; what the document says there is kept all the same. */
    private static void lastDay() {
        StormPurses x = new StormPurses();
        storms(x, 9998);
        duePurse(x, 4, 0, 0, 10, 0);
        x.promise(4, 1, 2, 9);
        due("twos come on the last day", x.canKeepIn(0), 1);
        x.promise(4, 1, 1, 9);
        due("ones would come behind it", x.canKeepIn(1), StormPurses.NONE);
        due("run() up to the last day", typeAndRun(x, "s;s"), 1);
        due("count(0)", x.count(0), 9999);
        due("count(7)", x.count(7), 0);
        dueThrows(x, "storm()", STATE, x::storm);
    }

    private static void crossOfOne() {
        StormPurses x = new StormPurses();
        for (int islander = 0; islander < 8; islander++) {
            due("cross of one", x.cross(islander, islander), (islander + 1) % 8);
        }
        due("homeIn(0)", x.homeIn(0), 8);
    }

    private static void crossOfLast() {
        StormPurses x = new StormPurses();
        due("cross(0, 7)", x.cross(0, 7), 0);
        due("islanderOf(7, 1)", x.islanderOf(7, 1), 1);
        due("cross(7, 6)", x.cross(7, 6), 7);
        due("islanderOf(6, 1)", x.islanderOf(6, 1), 1);
    }

    private static void tradeOfOne() {
        StormPurses x = new StormPurses();
        for (int islander = 0; islander < 8; islander++) {
            int one = islander;
            dueThrows(x, "trade of " + one, ARGUMENT, () -> x.trade(one, 0, 0, one, 0, 0));
        }
    }

    private static void tradeIsMade() {
        StormPurses x = new StormPurses();
        due("of nothing", x.trade(0, 0, 0, 1, 1, 0), 0);
        due("of all", x.trade(7, 3, 10, 0, 0, 0), 3);
        due("of one purse for another", x.trade(0, 0, 10, 4, 0, 10), 0);
        due("of the first for the last", x.trade(0, 0, 9, 7, 3, 1), 0);
        dueCounts(x, 3, 0, 0, 1);
        duePurse(x, 0, 1, 0, 0, 1);
        duePurse(x, 7, 9, 0, 0, 9);
    }

    private static void tradeIsRefused() {
        StormPurses x = new StormPurses();
        due("1", x.trade(0, 0, 11, 1, 1, 5), 1);
        due("2", x.trade(0, 0, 10, 1, 1, 11), 2);
        due("3", x.trade(0, 0, 10, 1, 1, 6), 3);
        dueCounts(x, 0, 0, 0, 3);
        due("count(9)", x.count(9), 3);
    }

    private static void tradeOfMany() {
        StormPurses x = new StormPurses();
        due("99 of the first one", x.trade(0, 0, 99, 1, 1, 0), 1);
        due("99 of the second one", x.trade(0, 0, 0, 1, 1, 99), 2);
        due("99 of both", x.trade(0, 0, 99, 1, 0, 99), 1);
        due("0 of both", x.trade(0, 0, 0, 1, 1, 0), 0);
    }

    private static void worthBefore() {
        StormPurses x = new StormPurses();
        due("worth(0, 9)", x.worth(0, 9), 1);
        due("worth(0, 1)", x.worth(0, 1), 9);
        due("worth(0, 1) again", x.worth(0, 1), 1);
        due("worth(3, 1)", x.worth(3, 1), 9);
        due("worth(3, 9)", x.worth(3, 9), 1);
    }

    private static void valueBefore() {
        StormPurses x = new StormPurses();
        due("set(9)", x.set(9), 0);
        due("set(9) again", x.set(9), 9);
        due("set(0)", x.set(0), 9);
        due("set(0) again", x.set(0), 0);
    }

    // ---- promises 7 and 8

    private static void promiseToOneself() {
        StormPurses x = new StormPurses();
        for (int islander = 0; islander < 8; islander++) {
            int one = islander;
            dueThrows(x, "promise of " + one, ARGUMENT, () -> x.promise(one, one, 1, 0));
        }
    }

    private static void daysFromNow() {
        StormPurses x = new StormPurses();
        storms(x, 20);
        x.promise(0, 1, 1, 0);
        x.promise(0, 1, 1, 9);
        due("due today", x.promiseOf(0, 3), 20);
        due("due in nine days", x.promiseOf(1, 3), 29);
    }

    private static void numberOfPromise() {
        StormPurses x = new StormPurses();
        for (int number = 0; number < 8; number++) {
            due("promise", x.promise(7, 0, 1, 0), number);
        }
        x.storm();
        due("promise behind broken ones", x.promise(7, 0, 1, 0), 0);
    }

    private static void ninthPromise() {
        StormPurses x = promised(8);
        long before = x.count(9);
        due("a ninth one", x.promise(2, 3, 99, 9), StormPurses.NONE);
        due("count(3)", x.count(3), 8);
        due("count(7)", x.count(7), 1);
        due("count(9)", x.count(9), before);
        due("owed(2, 3)", x.owed(2, 3), 0);
        due("a tenth one", x.promise(2, 3, 99, 9), StormPurses.NONE);
        due("count(7)", x.count(7), 2);
    }

    private static void wrongNinthPromise() {
        StormPurses x = promised(8);
        dueThrows(x, "to oneself", ARGUMENT, () -> x.promise(0, 0, 1, 0));
        dueThrows(x, "of the sum 0", ARGUMENT, () -> x.promise(0, 1, 0, 0));
        dueThrows(x, "of the islander 8", INDEX, () -> x.promise(8, 1, 1, 0));
        due("count(7)", x.count(7), 0);
    }

    private static void noNumber(int many) {
        StormPurses x = promised(many);
        for (int number : new int[] {-1, many, many + 1, Integer.MIN_VALUE, Integer.MAX_VALUE}) {
            dueThrows(x, "fulfil(" + number + ")", INDEX, () -> x.fulfil(number));
        }
        if (many > 0) {
            due("fulfil of the last one", x.fulfil(many - 1), 9);
            dueThrows(x, "fulfil of it again", INDEX, () -> x.fulfil(many - 1));
        }
    }

    private static void gives(int from, int sum, int want) {
        StormPurses x = new StormPurses();
        x.promise(from, 7 - from, sum, 0);
        due("promiseOf(0, 4)", x.promiseOf(0, 4), want);
        due("fulfil(0)", x.fulfil(0), want);
        due("count(3)", x.count(3), want == StormPurses.NONE ? 1 : 0);
        due("caps(" + from + ", ..)", x.caps(from, from % 4), want == StormPurses.NONE ? 10 : 10 - want);
    }

    private static void refusedFulfil() {
        StormPurses x = new StormPurses();
        x.promise(1, 0, 7, 9);
        due("fulfil(0)", x.fulfil(0), StormPurses.NONE);
        due("fulfil(0) again", x.fulfil(0), StormPurses.NONE);
        dueCounts(x, 0, 0, 0, 2);
        due("count(9)", x.count(9), 3);
        due("count(3)", x.count(3), 1);
    }

    // ---- promises 9 to 12

    private static void lengths() {
        StormPurses x = new StormPurses();
        for (int length = 1; length <= 60; length++) {
            due("append", x.append('~'), length);
        }
        due("clearBuffer()", x.clearBuffer(), 60);
        due("append to an empty buffer", x.append('!'), 1);
    }

    private static void fullBuffer() {
        StormPurses x = new StormPurses();
        type(x, "s;".repeat(29) + "s");
        due("the sixtieth", x.append(';'), 60);
        dueThrows(x, "a sixty-first", STATE, () -> x.append('s'));
        due("clearBuffer()", x.clearBuffer(), 60);
    }

    private static void clearTwice() {
        StormPurses x = new StormPurses();
        due("clearBuffer()", x.clearBuffer(), 0);
        x.append('x');
        due("clearBuffer()", x.clearBuffer(), 1);
        due("clearBuffer()", x.clearBuffer(), 0);
        due("count(9)", x.count(9), 0);
    }

    private static void clearFull() {
        StormPurses x = new StormPurses();
        type(x, "~".repeat(60));
        due("clearBuffer()", x.clearBuffer(), 60);
        due("firstError()", x.firstError(), 0);
        type(x, "!".repeat(60));
        due("clearBuffer()", x.clearBuffer(), 60);
    }

    private static int errorOf(String text) {
        StormPurses x = new StormPurses();
        type(x, text);
        return x.firstError();
    }

    private static void errorAtFirst() {
        due("!", errorOf("!"), 0);
        due(";", errorOf(";"), 0);
        due("0", errorOf("0"), 0);
        due("~ and sixty in all", errorOf("~".repeat(60)), 0);
    }

    private static void errorAtLast() {
        due("s!", errorOf("s!"), 1);
        due("sixty in all", errorOf("s;".repeat(29) + "ss"), 59);
        due("fifty-nine in all", errorOf("s;".repeat(28) + "p11"), 58);
    }

    private static void noErrorInNothing() {
        due("nothing", errorOf(""), 0);
        StormPurses x = new StormPurses();
        type(x, "!");
        x.clearBuffer();
        due("nothing any more", x.firstError(), 0);
        x.append('s');
        due("something again", x.firstError(), 1);
    }

    private static void noErrorInFull() {
        due("k0 at the end", errorOf("s;".repeat(29) + "k0"), 60);
        due("p01=99/0 at the end", errorOf("s;".repeat(26) + "p01=99/0"), 60);
        due("; at the end", errorOf("s;".repeat(30)), 60);
    }

    private static void runsAll() {
        StormPurses x = new StormPurses();
        due("of a full buffer", typeAndRun(x, "s;".repeat(26) + "p01=99/0"), 27);
        due("the day", x.count(0), 26);
        due("the day of the promise", x.promiseOf(0, 3), 26);
        due("one", typeAndRun(x, "s"), 1);
        due("broken so far", x.count(6), 1);
    }

    private static void runsNone() {
        StormPurses x = new StormPurses();
        due("the first one would throw", typeAndRun(x, "k0;s"), 0);
        due("the day", x.count(0), 0);
        x.promise(1, 0, 7, 0);
        due("the first one is refused", typeAndRun(x, "k0;s"), 0);
        due("the day", x.count(0), 0);
    }

    private static void runBreaks() {
        StormPurses x = new StormPurses();
        x.promise(0, 1, 1, 0);
        due("run()", typeAndRun(x, "s;p01=2/0;s;p01=3/1;s;x01"), 6);
        dueCounts(x, 0, 0, 2, 0);
        due("count(3)", x.count(3), 1);
        due("promiseOf(0, 2)", x.promiseOf(0, 2), 3);
        due("islanderOf(0, 1)", x.islanderOf(0, 1), 2);
    }

    private static void runCrossesOne() {
        StormPurses x = new StormPurses();
        due("run()", typeAndRun(x, "x00;x77;x07;x70;x70"), 5);
        due("islanderOf(0, 1)", x.islanderOf(0, 1), 0);
        due("islanderOf(7, 1)", x.islanderOf(7, 1), 1);
    }

    private static void runPromises() {
        StormPurses x = new StormPurses();
        storms(x, 3);
        due("run()", typeAndRun(x, "p07=1/0;p70=99/9;p10=10/0;p65=9/9"), 4);
        int[][] want = {{0, 7, 1, 3}, {7, 0, 99, 12}, {1, 0, 10, 3}, {6, 5, 9, 12}};
        for (int number = 0; number < 4; number++) {
            for (int what = 0; what < 4; what++) {
                due("promiseOf(" + number + ", " + what + ")", x.promiseOf(number, what), want[number][what]);
            }
        }
    }

    private static void runKeeps() {
        StormPurses x = promised(8);
        due("run()", typeAndRun(x, "k7;k6;s"), 1);
        due("kept so far", x.count(5), 1);
        due("refused so far", x.count(7), 1);
        due("caps(0, 0)", x.caps(0, 0), 1);
        StormPurses y = new StormPurses();
        due("run()", typeAndRun(y, "p10=2/0;p30=9/0;p10=4/0;k1;k1;k0;k0;s"), 6);
        dueCounts(y, 0, 3, 0, 0);
        duePurse(y, 0, 10, 3, 0, 1);
        due("the day", y.count(0), 0);
    }

    private static void runRefusesPromise() {
        StormPurses x = promised(7);
        due("run()", typeAndRun(x, "p01=1/0;p01=2/0;s"), 1);
        due("count(3)", x.count(3), 8);
        due("promiseOf(7, 2)", x.promiseOf(7, 2), 1);
        dueCounts(x, 0, 0, 0, 1);
        due("the day", x.count(0), 0);
    }

    private static void runRefusesFulfil() {
        StormPurses x = new StormPurses();
        due("run()", typeAndRun(x, "x01;p10=7/0;k0;s;x01"), 2);
        dueCounts(x, 0, 0, 0, 1);
        due("the day", x.count(0), 0);
        due("count(3)", x.count(3), 1);
        due("islanderOf(0, 1)", x.islanderOf(0, 1), 2);
    }

    private static void runWouldThrow() {
        StormPurses x = promised(1);
        due("run()", typeAndRun(x, "x01;k1;s"), 1);
        dueCounts(x, 0, 0, 0, 0);
        due("the day", x.count(0), 0);
        due("count(3)", x.count(3), 1);
        due("run()", typeAndRun(x, "k0;k0;s"), 1);
        dueCounts(x, 0, 1, 0, 0);
    }

    private static void runClears() {
        StormPurses x = new StormPurses();
        typeAndRun(x, "k0");
        due("would throw: clearBuffer()", x.clearBuffer(), 0);
        x.promise(1, 0, 7, 0);
        typeAndRun(x, "k0;s");
        due("refused: clearBuffer()", x.clearBuffer(), 0);
        typeAndRun(x, "s" + ";s".repeat(29));
        due("all done: clearBuffer()", x.clearBuffer(), 0);
        due("append", x.append('s'), 1);
    }

    private static void runIsOneCall() {
        StormPurses x = promised(1);
        long before = x.digest();
        due("run()", typeAndRun(x, "s;x01;k0;p12=3/4;s;s;s;s;s"), 9);
        due("count(9)", x.count(9), 2);
        due("undo()", x.undo(), 1);
        due("digest()", x.digest(), before);
        due("run()", typeAndRun(x, "k0;x01;p12=3/4;s;s;s;s;s;s;s"), 10);
        due("count(9)", x.count(9), 2);
        due("undo()", x.undo(), 1);
        due("digest()", x.digest(), before);
    }

    private static void runOfNoneIsSaved() {
        StormPurses x = new StormPurses();
        due("run()", typeAndRun(x, "k0"), 0);
        due("count(9)", x.count(9), 1);
        due("undo()", x.undo(), 0);
    }

    private static void runOfEmpty() {
        StormPurses x = new StormPurses();
        dueThrows(x, "run()", ARGUMENT, x::run);
        typeAndRun(x, "s");
        dueThrows(x, "run() of a text that was run", ARGUMENT, x::run);
        due("the day", x.count(0), 1);
    }

    private static void runOfNoOrders() {
        String[] texts = {"s;", "x", "x0", "p", "p0", "p01", "p01=", "p01=1", "p01=10", "p01=1/", "k", "!", "s;!", "p00=1/0",
            "p01=0/0", "p01=100/0", "p01=1/10", "x08", "k8", "ss"};
        for (String text : texts) {
            StormPurses x = new StormPurses();
            type(x, text);
            dueThrows(x, "run() of " + text, ARGUMENT, x::run);
            due("the buffer stays", x.clearBuffer(), text.length());
        }
    }

    // ---- promises 13 to 15

    private static void keepsInPlace() {
        StormPurses x = new StormPurses();
        x.keep(0);
        x.keep(1);
        x.storm();
        x.keep(1);
        due("the slot 1", x.goBack(1), 1);
        due("the slot 0", x.goBack(0), 0);
        x.keep(1);
        x.storm();
        due("the slot 1 once more", x.goBack(1), 0);
    }

    private static void keepTellsDay() {
        StormPurses x = new StormPurses();
        due("keep(1)", x.keep(1), 0);
        storms(x, 3);
        due("keep(0)", x.keep(0), 3);
        x.undo();
        due("keep(0)", x.keep(0), 2);
    }

    private static void keepSavesNothing() {
        StormPurses x = new StormPurses();
        x.keep(0);
        x.keep(1);
        due("count(9)", x.count(9), 0);
        dueThrows(x, "undo()", STATE, x::undo);
    }

    private static void slotsToGoBackTo() {
        StormPurses x = new StormPurses();
        x.keep(0);
        x.keep(1);
        dueRange(x, 0, 1, ARGUMENT, x::goBack);
    }

    private static void snapshotStays() {
        StormPurses x = promised(2);
        x.keep(0);
        for (int times = 0; times < 3; times++) {
            x.goBack(0);
            x.fulfil(0);
            x.worth(0, 4);
            x.set(3);
            x.cross(0, 1);
            x.storm();
        }
        due("goBack(0)", x.goBack(0), 0);
        due("count(3)", x.count(3), 2);
        due("count(5)", x.count(5), 0);
        due("count(8)", x.count(8), 0);
        due("islanderOf(0, 0)", x.islanderOf(0, 0), 10);
        due("islanderOf(0, 1)", x.islanderOf(0, 1), 1);
    }

    private static void goBackTellsDay() {
        StormPurses x = new StormPurses();
        x.keep(0);
        storms(x, 2);
        x.keep(1);
        x.storm();
        due("goBack(0)", x.goBack(0), 0);
        due("count(0)", x.count(0), 0);
        due("goBack(1), to a later day", x.goBack(1), 2);
        due("count(0)", x.count(0), 2);
    }

    private static void noSnapshot() {
        StormPurses x = new StormPurses();
        dueThrows(x, "goBack(0)", STATE, () -> x.goBack(0));
        x.keep(0);
        dueThrows(x, "goBack(1)", STATE, () -> x.goBack(1));
        due("goBack(0)", x.goBack(0), 0);
        StormPurses y = new StormPurses();
        y.keep(1);
        dueThrows(y, "goBack(0)", STATE, () -> y.goBack(0));
        due("goBack(1)", y.goBack(1), 0);
    }

    private static void goBackIsUndone() {
        StormPurses x = new StormPurses();
        x.keep(0);
        storms(x, 2);
        x.goBack(0);
        due("undo()", x.undo(), 2);
        due("count(0)", x.count(0), 2);
        duePurse(x, 2, 10, 0, 0, 0);
    }

    private static void undoesLatest() {
        StormPurses x = new StormPurses();
        x.set(1);
        x.set(2);
        x.set(3);
        x.undo();
        due("count(8)", x.count(8), 2);
        x.undo();
        due("count(8)", x.count(8), 1);
        x.set(7);
        x.undo();
        due("count(8)", x.count(8), 1);
        x.undo();
        due("count(8)", x.count(8), 0);
    }

    private static void undoesOnlyOne() {
        StormPurses x = new StormPurses();
        x.storm();
        due("undo()", x.undo(), 0);
        due("count(9)", x.count(9), 0);
    }

    private static void undoesSixth() {
        StormPurses x = new StormPurses();
        storms(x, 7);
        due("count(9)", x.count(9), 6);
        due("undo()", x.undo(), 5);
        due("count(9)", x.count(9), 5);
    }

    private static void nothingToUndo() {
        StormPurses x = new StormPurses();
        dueThrows(x, "undo()", STATE, x::undo);
        x.storm();
        x.undo();
        dueThrows(x, "undo() again", STATE, x::undo);
        due("count(0)", x.count(0), 0);
    }

    // ---- promises 16 to 20

    private static void capsOfRichest() {
        StormPurses x = oneHasAll();
        duePurse(x, 7, 20, 20, 20, 20);
        for (int islander = 0; islander < 7; islander++) {
            duePurse(x, islander, 0, 0, 0, 0);
        }
    }

    private static void worthOfPurses() {
        StormPurses x = oneHasAll();
        due("islanderOf(0, 0)", x.islanderOf(0, 0), 0);
        due("islanderOf(7, 0)", x.islanderOf(7, 0), 340);
        for (int colour = 0; colour < 4; colour++) {
            x.worth(colour, 9);
        }
        due("islanderOf(0, 0)", x.islanderOf(0, 0), 0);
        due("islanderOf(7, 0)", x.islanderOf(7, 0), 720);
    }

    private static void pathOfLast() {
        StormPurses x = new StormPurses();
        due("islanderOf(7, 1)", x.islanderOf(7, 1), 0);
        due("islanderOf(0, 1)", x.islanderOf(0, 1), 1);
        x.cross(7, 3);
        due("islanderOf(7, 1)", x.islanderOf(7, 1), 4);
        due("islanderOf(3, 1)", x.islanderOf(3, 1), 0);
    }

    /** The islanders 0 to (length less 1) are made a circle, and those behind them another one. */
    private static void circlesOfEachLength() {
        for (int length = 1; length <= 8; length++) {
            StormPurses x = new StormPurses();
            x.cross(length - 1, 7);
            for (int islander = 0; islander < 8; islander++) {
                due("the circle of " + islander, x.islanderOf(islander, 2), islander < length ? length : 8 - length);
            }
        }
    }

    private static void promisedTogether() {
        StormPurses x = new StormPurses();
        due("islanderOf(7, 3) of nothing", x.islanderOf(7, 3), 0);
        due("islanderOf(0, 4) of nothing", x.islanderOf(0, 4), 0);
        for (int number = 0; number < 8; number++) {
            x.promise(7, 0, 99, 9);
        }
        due("islanderOf(7, 3)", x.islanderOf(7, 3), 792);
        due("islanderOf(0, 4)", x.islanderOf(0, 4), 792);
        due("islanderOf(7, 4)", x.islanderOf(7, 4), 0);
        due("islanderOf(0, 3)", x.islanderOf(0, 3), 0);
        storms(x, 10);
        due("islanderOf(7, 3) of broken ones", x.islanderOf(7, 3), 0);
        due("islanderOf(0, 4) of broken ones", x.islanderOf(0, 4), 0);
    }

    private static void noPromiseOf(int many) {
        StormPurses x = promised(many);
        for (int number : new int[] {-1, many, many + 1, Integer.MIN_VALUE, Integer.MAX_VALUE}) {
            dueThrows(x, "promiseOf(" + number + ", 0)", INDEX, () -> x.promiseOf(number, 0));
            dueThrows(x, "promiseOf(" + number + ", 4)", INDEX, () -> x.promiseOf(number, 4));
        }
        for (int number = 0; number < many; number++) {
            due("promiseOf(" + number + ", 2)", x.promiseOf(number, 2), 9);
        }
    }

    private static void whatOfPromise() {
        StormPurses x = promised(1);
        dueRange(x, 0, 4, ARGUMENT, what -> x.promiseOf(0, what));
    }

    private static void sumsOfPromises() {
        StormPurses x = new StormPurses();
        x.promise(0, 7, 1, 0);
        x.promise(7, 0, 99, 0);
        due("promiseOf(0, 2)", x.promiseOf(0, 2), 1);
        due("promiseOf(1, 2)", x.promiseOf(1, 2), 99);
        due("promiseOf(0, 0)", x.promiseOf(0, 0), 0);
        due("promiseOf(0, 1)", x.promiseOf(0, 1), 7);
        due("promiseOf(1, 0)", x.promiseOf(1, 0), 7);
        due("promiseOf(1, 1)", x.promiseOf(1, 1), 0);
    }

    private static void daysOfPromises() {
        StormPurses x = new StormPurses();
        x.promise(0, 7, 1, 9);
        storms(x, 9);
        x.promise(0, 7, 1, 0);
        x.promise(0, 7, 1, 9);
        due("promiseOf(0, 3)", x.promiseOf(0, 3), 9);
        due("promiseOf(1, 3)", x.promiseOf(1, 3), 9);
        due("promiseOf(2, 3)", x.promiseOf(2, 3), 18);
    }

    private static void capsForPromise() {
        StormPurses x = new StormPurses();
        x.promise(3, 0, 90, 9);
        x.promise(3, 0, 89, 9);
        x.promise(3, 0, 91, 9);
        due("all caps", x.promiseOf(0, 4), 10);
        due("less than all", x.promiseOf(1, 4), StormPurses.NONE);
        due("more than all", x.promiseOf(2, 4), StormPurses.NONE);
        x.storm();
        due("now", x.promiseOf(0, 4), StormPurses.NONE);
        x.worth(2, 9);
        due("with fives that are worth 9", x.promiseOf(0, 4), 10);
    }

    private static void owedTogether() {
        StormPurses x = new StormPurses();
        due("owed(0, 7) of nothing", x.owed(0, 7), 0);
        x.promise(7, 0, 1, 0);
        x.promise(0, 6, 2, 0);
        x.promise(6, 7, 3, 0);
        for (int number = 3; number < 8; number++) {
            x.promise(0, 7, 99, 0);
        }
        due("owed(0, 7)", x.owed(0, 7), 495);
        due("owed(6, 7)", x.owed(6, 7), 3);
        due("owed(7, 0)", x.owed(7, 0), 1);
        due("owed(0, 6)", x.owed(0, 6), 2);
        x.storm();
        due("owed(0, 7) of broken ones", x.owed(0, 7), 0);
        for (int number = 0; number < 8; number++) {
            x.promise(0, 7, 99, 0);
        }
        due("owed(0, 7)", x.owed(0, 7), 792);
    }

    private static void owedToOneself() {
        StormPurses x = promised(8);
        for (int islander = 0; islander < 8; islander++) {
            due("owed(" + islander + ", " + islander + ")", x.owed(islander, islander), 0);
        }
    }

    private static void capsStay() {
        StormPurses x = mixed();
        x.promise(0, 1, 9, 9);
        x.fulfil(0);
        storms(x, 3);
        x.worth(0, 9);
        due("count(1)", x.count(1), 80);
        due("count(1) of one with all", oneHasAll().count(1), 80);
    }

    private static void worthOfAll() {
        StormPurses x = new StormPurses();
        for (int colour = 0; colour < 4; colour++) {
            x.worth(colour, 1);
        }
        due("count(2) of ones", x.count(2), 80);
        for (int colour = 0; colour < 4; colour++) {
            x.worth(colour, 9);
        }
        due("count(2) of nines", x.count(2), 720);
    }

    private static void refusedTradeIsNone() {
        StormPurses x = new StormPurses();
        x.trade(0, 0, 99, 1, 1, 0);
        due("count(4)", x.count(4), 0);
        due("count(7)", x.count(7), 1);
        x.trade(0, 0, 0, 1, 1, 0);
        due("count(4)", x.count(4), 1);
        due("count(7)", x.count(7), 1);
    }

    private static void savedStates() {
        StormPurses x = new StormPurses();
        for (int many = 1; many <= 8; many++) {
            x.set(0);
            due("count(9)", x.count(9), many > 6 ? 6 : many);
        }
        x.undo();
        due("count(9)", x.count(9), 5);
    }

    private static void looksChangeNothing() {
        StormPurses x = mixed();
        x.promise(0, 1, 19, 9);
        type(x, "s;");
        x.keep(1);
        long before = x.digest();
        for (int what = 0; what < 2; what++) {
            x.homeIn(what);
            x.where(0, 1000, what);
            x.fewest(0, 19, what);
            x.caps(0, what);
            x.promiseOf(0, 4 * what);
            x.islanderOf(0, 2 + what);
        }
        x.owed(0, 1);
        x.count(2);
        x.richest();
        x.canKeepIn(0);
        x.richShare();
        x.firstError();
        due("digest()", x.digest(), before);
        due("fulfil(0)", x.fulfil(0), 5);
    }

    // ---- promises 21 to 24

    private static void dueWhere(StormPurses x, int islander, int storms, int want) {
        due("where(" + islander + ", " + storms + ", 0)", x.where(islander, storms, 0), want);
        due("where(" + islander + ", " + storms + ", 1)", x.where(islander, storms, 1), want);
    }

    private static void roundCircle() {
        StormPurses x = new StormPurses();
        dueWhere(x, 7, 0, 7);
        dueWhere(x, 7, 1, 0);
        dueWhere(x, 0, 7, 7);
        dueWhere(x, 0, 8, 0);
        dueWhere(x, 0, 9, 1);
        dueWhere(x, 0, 999, 7);
        dueWhere(x, 0, 1000, 0);
        due("count(0)", x.count(0), 0);
        x.cross(2, 7);
        dueWhere(x, 0, 1000, 1);
        dueWhere(x, 3, 1000, 3);
        dueWhere(x, 7, 1000, 7);
        dueWhere(x, 7, 999, 6);
    }

    private static void dueHome(StormPurses x, int want) {
        due("homeIn(0)", x.homeIn(0), want);
        due("homeIn(1)", x.homeIn(1), want);
    }

    /** Each way to part the islanders into circles, longer ones first; of neighbours, so that the answers are plain. */
    private static void circlesOf(int rest, int most, String lengths) {
        if (rest == 0) {
            dueCircles(lengths);
        }
        for (int length = Math.min(rest, most); length >= 1; length--) {
            circlesOf(rest - length, length, lengths + length);
        }
    }

    private static void dueCircles(String lengths) {
        StormPurses x = new StormPurses();
        int begin = 0;
        int home = 1;
        for (char digit : lengths.toCharArray()) {
            int length = digit - '0';
            lead(x, begin + length - 1, begin);
            begin += length;
            home = lcm(home, length);
        }
        dueHome(x, home);
        begin = 0;
        for (char digit : lengths.toCharArray()) {
            int length = digit - '0';
            for (int place = 0; place < length; place++) {
                due("the circle in " + lengths, x.islanderOf(begin + place, 2), length);
                dueWhere(x, begin + place, 1000, begin + (place + 1000) % length);
                dueWhere(x, begin + place, home, begin + place);
            }
            begin += length;
        }
    }

    private static int lcm(int one, int other) {
        int both = one;
        while (both % other != 0) {
            both += one;
        }
        return both;
    }

    private static void homeAtOnce() {
        StormPurses x = new StormPurses();
        for (int islander = 0; islander < 8; islander++) {
            lead(x, islander, islander);
        }
        dueHome(x, 1);
    }

    private static void homeAtLast() {
        StormPurses x = new StormPurses();
        x.cross(4, 7);
        dueHome(x, 15);
        x.storm();
        dueHome(x, 15);
        storms(x, 14);
        duePurse(x, 0, 10, 0, 0, 0);
        duePurse(x, 7, 0, 0, 0, 10);
    }

    private static void dueFewest(StormPurses x, int islander, int sum, int want) {
        due("fewest(" + islander + ", " + sum + ", 0)", x.fewest(islander, sum, 0), want);
        due("fewest(" + islander + ", " + sum + ", 1)", x.fewest(islander, sum, 1), want);
    }

    private static void fewestOfEachSum() {
        StormPurses x = new StormPurses();
        for (int sum = 1; sum <= 50; sum++) {
            dueFewest(x, 0, sum, sum <= 10 ? sum : StormPurses.NONE);
            dueFewest(x, 1, sum, sum <= 20 && sum % 2 == 0 ? sum / 2 : StormPurses.NONE);
            dueFewest(x, 2, sum, sum % 5 == 0 ? sum / 5 : StormPurses.NONE);
        }
        dueFewest(x, 2, 51, StormPurses.NONE);
        dueFewest(x, 2, 55, StormPurses.NONE);
    }

    private static void fewestWithinPurse() {
        StormPurses x = mixed();
        duePurse(x, 0, 4, 2, 1, 1);
        dueFewest(x, 0, 22, 8);
        dueFewest(x, 0, 23, StormPurses.NONE);
        dueFewest(x, 0, 13, 3);
        dueFewest(x, 0, 8, 3);
        dueFewest(x, 3, 81, 9);
        dueFewest(x, 3, 83, 11);
        dueFewest(x, 3, 90, StormPurses.NONE);
        dueFewest(x, 7, 90, 10);
        dueFewest(x, 7, 99, StormPurses.NONE);
    }

    private static void fewestOfNothing() {
        StormPurses x = oneHasAll();
        dueFewest(x, 0, 1, StormPurses.NONE);
        dueFewest(x, 6, 99, StormPurses.NONE);
    }

    private static void fewestOfAll() {
        StormPurses x = oneHasAll();
        dueFewest(x, 7, 99, 11);
        dueFewest(x, 7, 1, 1);
        dueFewest(x, 7, 98, 13);
        for (int colour = 1; colour < 4; colour++) {
            x.worth(colour, 1);
        }
        dueFewest(x, 7, 80, 80);
        dueFewest(x, 7, 81, StormPurses.NONE);
        dueFewest(x, 7, 99, StormPurses.NONE);
    }

    private static void lowestOfRichest() {
        StormPurses x = new StormPurses();
        due("of 3 and 7", x.richest(), 3);
        for (int colour = 0; colour < 4; colour++) {
            x.worth(colour, 4);
        }
        due("of all", x.richest(), 0);
        x.worth(2, 5);
        due("of 2 and 6", x.richest(), 2);
    }

    private static void lastIsRichest() {
        StormPurses x = new StormPurses();
        x.set(1);
        x.trade(0, 0, 1, 7, 3, 0);
        due("by one", x.richest(), 7);
        x.trade(0, 0, 1, 3, 3, 0);
        due("by none", x.richest(), 3);
        due("with all caps", oneHasAll().richest(), 7);
    }

    private static void eachIsRichest() {
        StormPurses x = new StormPurses();
        x.set(9);
        x.trade(1, 1, 0, 3, 3, 1);
        int richest = 1;
        for (int colour = 0; colour < 4; colour++) {
            x.worth(colour, 3);
        }
        for (int storms = 0; storms < 8; storms++) {
            due("behind " + storms + " storms", x.richest(), richest);
            x.storm();
            richest = (richest + 1) % 8;
        }
    }

    // ---- promises 25 to 27

    private static void noWait(int many) {
        StormPurses x = promised(many);
        for (int number : new int[] {-1, many, many + 1, Integer.MIN_VALUE, Integer.MAX_VALUE}) {
            dueThrows(x, "canKeepIn(" + number + ")", INDEX, () -> x.canKeepIn(number));
        }
        for (int number = 0; number < many; number++) {
            due("canKeepIn(" + number + ")", x.canKeepIn(number), 0);
        }
    }

    private static void canKeepNow() {
        StormPurses x = new StormPurses();
        x.promise(0, 1, 10, 0);
        x.promise(0, 1, 10, 9);
        due("due today", x.canKeepIn(0), 0);
        due("due in nine days", x.canKeepIn(1), 0);
    }

    /** The islander 1 alone has a purse that pays 13: nine twos and a nine. */
    private static StormPurses thirteens() {
        StormPurses x = new StormPurses();
        x.set(9);
        x.trade(1, 1, 1, 3, 3, 1);
        duePurse(x, 1, 0, 9, 0, 1);
        return x;
    }

    private static void canKeepSoon() {
        StormPurses x = thirteens();
        x.promise(0, 4, 13, 9);
        for (int storms = 7; storms > 0; storms--) {
            due("canKeepIn(0)", x.canKeepIn(0), storms);
            due("fulfil(0)", x.fulfil(0), StormPurses.NONE);
            x.storm();
        }
        due("canKeepIn(0)", x.canKeepIn(0), 0);
        due("fulfil(0)", x.fulfil(0), 3);
    }

    private static void canKeepOnLastDay() {
        StormPurses x = thirteens();
        x.promise(0, 4, 13, 7);
        x.promise(0, 4, 13, 6);
        x.promise(2, 4, 13, 1);
        x.promise(2, 4, 13, 0);
        due("behind seven storms, on the day", x.canKeepIn(0), 7);
        due("behind seven storms, too late", x.canKeepIn(1), StormPurses.NONE);
        due("behind one storm, on the day", x.canKeepIn(2), 1);
        due("behind one storm, too late", x.canKeepIn(3), StormPurses.NONE);
        storms(x, 7);
        due("the one that is left", x.count(3), 1);
        due("fulfil(0)", x.fulfil(0), 3);
    }

    private static void canNeverKeep() {
        StormPurses x = new StormPurses();
        x.promise(0, 1, 99, 9);
        due("more than any purse", x.canKeepIn(0), StormPurses.NONE);
        lead(x, 0, 0);
        x.promise(0, 1, 45, 9);
        x.promise(0, 1, 10, 9);
        due("with a purse that stays", x.canKeepIn(1), StormPurses.NONE);
        due("with a purse that stays and pays", x.canKeepIn(2), 0);
        storms(x, 9);
        due("on the day", x.canKeepIn(1), StormPurses.NONE);
    }

    private static void leastShare() {
        StormPurses x = new StormPurses();
        for (int colour = 0; colour < 4; colour++) {
            x.worth(colour, 9);
        }
        dueShare("richShare()", x.richShare(), 0.125);
        dueDigest(x, new int[] {9, 9, 9, 9}, 0, 0, "");
    }

    private static void mostShare() {
        StormPurses x = oneHasAll();
        dueShare("richShare()", x.richShare(), 1.0);
        x.worth(3, 1);
        dueShare("richShare()", x.richShare(), 1.0);
        dueShare("richShare() at first", new StormPurses().richShare(), 90.0 / 340.0);
    }

    private static void shareOfOdd() {
        StormPurses x = new StormPurses();
        for (int colour = 0; colour < 4; colour++) {
            x.worth(colour, 7);
        }
        x.set(9);
        x.trade(0, 0, 1, 6, 0, 0);
        dueShare("richShare()", x.richShare(), 77.0 / 560.0);
        due("richest()", x.richest(), 6);
    }

    private static void digestOfBuffer() {
        String full = "s;".repeat(28) + "!~0z";
        StormPurses x = new StormPurses();
        type(x, full);
        dueDigest(x, WORTHS, 0, 0, full);
        StormPurses y = new StormPurses();
        type(y, full);
        y.clearBuffer();
        dueDigest(y, WORTHS, 0, 0, "");
    }

    private static void digestOfSlots() {
        StormPurses first = new StormPurses();
        first.keep(0);
        dueDigest(first, WORTHS, 1, 0, "");
        StormPurses last = new StormPurses();
        last.keep(1);
        dueDigest(last, WORTHS, 0, 1, "");
        StormPurses both = new StormPurses();
        both.keep(0);
        both.keep(1);
        dueDigest(both, WORTHS, 1, 1, "");
    }

    private static void digestOfPromises() {
        StormPurses one = new StormPurses();
        one.promise(7, 0, 99, 9);
        dueDigest(one, WORTHS, 0, 0, "");
        StormPurses all = new StormPurses();
        for (int number = 0; number < 8; number++) {
            all.promise(number, 7 - number, 1 + 14 * number, number);
        }
        dueDigest(all, WORTHS, 0, 0, "");
    }
}
