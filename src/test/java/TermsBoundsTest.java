import java.util.ArrayList;
import java.util.List;

/** Each sentence of "What it is", "The public face" and "Terms" that names a boundary case has a test of its own here. */
public final class TermsBoundsTest extends Checks {
    private static final String EACH_SIGN = eachSign();

    private interface CallOn {
        void go(StormPurses x);
    }

    public static void main(String[] args) {
        test("used for at most 512 calls", TermsBoundsTest::lastCall);
        test("NONE = -1", () -> due("NONE", StormPurses.NONE, -1));
        purses();
        storms();
        trades();
        promises();
        orders();
        snapshots();
        savedStates();
        exceptions();
        end();
    }

    private static void purses() {
        test("8 islanders, numbered from 0", TermsBoundsTest::islanders);
        test("caps of 4 colours, numbered from 0", TermsBoundsTest::colours);
        test("10 caps of the colour (i modulo 4)", TermsBoundsTest::pursesBeginAgainBehindColourThree);
        test("and no others", TermsBoundsTest::pursesHoldNoOthers);
        test("worth 1 to 9", TermsBoundsTest::leastAndMostWorth);
        test("at first 1, 2, 5 and 9", TermsBoundsTest::worthsAtFirst);
    }

    private static void storms() {
        test("each gets one", TermsBoundsTest::eachGetsOnePurse);
        test("from i to (i and 1, together)", TermsBoundsTest::pathAtFirst);
        test("from the last one to the islander 0", TermsBoundsTest::pathOfLast);
        test("all purses go so at once", TermsBoundsTest::pursesGoAtOnce);
        test("a purse that stays", TermsBoundsTest::purseStays);
        test("the day becomes 1 more", TermsBoundsTest::dayGrows);
        test("the day is 0 at first", () -> due("count(0)", new StormPurses().count(0), 0));
    }

    private static void trades() {
        test("1: the first one has too few", TermsBoundsTest::firstHasTooFew);
        test("2: the second one has too few", TermsBoundsTest::secondHasTooFew);
        test("too few before the trade, whatever it brings", TermsBoundsTest::tooFewBeforeTrade);
        test("3: differs by more than setting 0", TermsBoundsTest::unfair);
        test("3: whoever gives more", TermsBoundsTest::unfairToEither);
        test("the first of these reasons", TermsBoundsTest::firstOfReasons);
        test("a refused trade moves nothing", TermsBoundsTest::refusedTradeMovesNothing);
        test("setting 0: 0 to 9", TermsBoundsTest::leastAndMostSetting);
        test("setting 0: at first 0", TermsBoundsTest::settingAtFirst);
    }

    private static void promises() {
        test("at most 8 promises", TermsBoundsTest::eightPromises);
        test("numbered from 0", TermsBoundsTest::numbersFromZero);
        test("those behind get numbers 1 less: the first one is gone", () -> goneAt(0));
        test("those behind get numbers 1 less: one between is gone", () -> goneAt(3));
        test("those behind get numbers 1 less: the last one is gone", () -> goneAt(7));
        test("those behind get numbers 1 less: broken ones", TermsBoundsTest::brokenBetween);
        test("it stays with the islanders", TermsBoundsTest::promiseStaysWithIslanders);
        test("worth just its sum", TermsBoundsTest::justTheSum);
        test("the whole purse", TermsBoundsTest::wholePurse);
        test("one with the fewest caps", TermsBoundsTest::fewestCaps);
        test("the most caps of the colour 3", TermsBoundsTest::mostOfColourThree);
        test("of these the most of the colour 2", TermsBoundsTest::mostOfColourTwo);
        test("and so on: the most of the colour 1", TermsBoundsTest::mostOfColourOne);
        test("refused if there is no such way", TermsBoundsTest::noWay);
        test("an empty purse keeps no promise", TermsBoundsTest::emptyPurse);
        test("the promise is gone then", TermsBoundsTest::keptIsGone);
        test("broken: the day is less than the day then", TermsBoundsTest::brokenBehindDay);
        test("not broken: the day is the day then", TermsBoundsTest::heldOnDay);
        test("due today: broken by the next storm", TermsBoundsTest::dueToday);
    }

    private static void orders() {
        test("at most 60 characters", TermsBoundsTest::sixtyCharacters);
        test("one or more of these: not none", TermsBoundsTest::noOrder);
        test("one or more of these: one", TermsBoundsTest::oneOrder);
        test("with \";\" between them: not before, behind or twice", TermsBoundsTest::signsBetween);
        test("which characters may come first", () -> next("", "sxpk"));
        test("s: nothing behind it", () -> next("s", ";"));
        test("x: an islander, 0 to 7", () -> next("x", "01234567"));
        test("x: another islander or the same, 0 to 7", () -> next("x7", "01234567"));
        test("x: nothing behind the two", () -> next("x07", ";"));
        test("p: an islander, 0 to 7", () -> next("p", "01234567"));
        test("p: the same digit is a syntax error", TermsBoundsTest::sameDigit);
        test("p: then =", () -> next("p01", "="));
        test("p: a sum without leading zeros", () -> next("p01=", "123456789"));
        test("p: a sum of one digit or two", TermsBoundsTest::secondDigit);
        test("p: a sum of at most 99", TermsBoundsTest::thirdDigit);
        test("p: days, 0 to 9", TermsBoundsTest::days);
        test("p: days of one digit", TermsBoundsTest::behindDays);
        test("k: the digit of a promise, 0 to 7", () -> next("k", "01234567"));
        test("k: nothing behind it", () -> next("k7", ";"));
        test("behind ; the same as first", TermsBoundsTest::behindSemicolon);
        test("which texts are whole", TermsBoundsTest::wholeTexts);
        test("orders of any length", TermsBoundsTest::anyLength);
        test("read from left to right", TermsBoundsTest::leftToRight);
    }

    private static void snapshots() {
        test("two slots", TermsBoundsTest::twoSlots);
        test("a snapshot is all", TermsBoundsTest::snapshotIsAll);
        test("a snapshot is all: 8 promises", TermsBoundsTest::snapshotOfEight);
        test("a snapshot is not the buffer", TermsBoundsTest::snapshotWithoutBuffer);
        test("a snapshot is not the slots", TermsBoundsTest::snapshotWithoutSlots);
        test("a snapshot is not the saved states", TermsBoundsTest::snapshotWithoutSaved);
    }

    private static void savedStates() {
        test("saves also if it changes nothing: cross", () -> saves(x -> x.cross(3, 3)));
        test("saves also if it changes nothing: trade", () -> saves(x -> x.trade(0, 0, 0, 1, 1, 0)));
        test("saves also if it changes nothing: worth", () -> saves(x -> x.worth(2, 5)));
        test("saves also if it changes nothing: set", () -> saves(x -> x.set(0)));
        test("saves also if it changes nothing: run", () -> saves(x -> typeAndRun(x, "k7")));
        test("saves also if it changes nothing: goBack", () -> saves(x -> x.goBack(0)));
        test("saves also if refused: trade, 1", () -> saves(x -> x.trade(0, 0, 11, 1, 1, 0)));
        test("saves also if refused: trade, 2", () -> saves(x -> x.trade(0, 0, 0, 1, 1, 11)));
        test("saves also if refused: trade, 3", () -> saves(x -> x.trade(0, 0, 1, 1, 1, 0)));
        test("saves also if refused: promise", TermsBoundsTest::refusedPromiseSaves);
        test("saves also if refused: fulfil", () -> saves(x -> x.fulfil(0)));
        test("saves also if refused: run", () -> saves(x -> typeAndRun(x, "k0;s")));
        test("saves: storm", () -> saves(StormPurses::storm));
        test("saves: cross", () -> saves(x -> x.cross(0, 7)));
        test("saves: trade", () -> saves(x -> x.trade(0, 0, 2, 1, 1, 1)));
        test("saves: worth", () -> saves(x -> x.worth(3, 1)));
        test("saves: set", () -> saves(x -> x.set(9)));
        test("saves: promise", () -> saves(x -> x.promise(7, 0, 99, 9)));
        test("saves: fulfil", () -> saves(x -> x.fulfil(1)));
        test("saves: run, as one call", () -> saves(x -> typeAndRun(x, "s;x01;p34=5/6;k1;s")));
        test("saves: run, with 8 promises", TermsBoundsTest::eightAreSaved);
        test("the others save nothing", TermsBoundsTest::othersSaveNothing);
        test("what is counted so far is saved", TermsBoundsTest::countsAreSaved);
        test("the buffer is not saved", TermsBoundsTest::bufferIsNotSaved);
        test("the slots are not saved", TermsBoundsTest::slotsAreNotSaved);
        test("at most 6 states", TermsBoundsTest::sixStates);
        test("the oldest one is dropped first", TermsBoundsTest::oldestIsDropped);
    }

    private static void exceptions() {
        test("a call that throws changes no saved state", TermsBoundsTest::throwingKeepsSaved);
        test("a call that throws leaves the buffer", TermsBoundsTest::throwingKeepsBuffer);
        test("a call that throws leaves the snapshots", TermsBoundsTest::throwingKeepsSnapshots);
        test("the exception that is named first: trade", TermsBoundsTest::firstOfTrade);
        test("the exception that is named first: worth", TermsBoundsTest::firstOfWorth);
        test("the exception that is named first: promise", TermsBoundsTest::firstOfPromise);
        test("the exception that is named first: append", TermsBoundsTest::firstOfAppend);
        test("the exception that is named first: goBack", TermsBoundsTest::firstOfGoBack);
        test("the exception that is named first: islanderOf", TermsBoundsTest::firstOfIslanderOf);
        test("the exception that is named first: promiseOf", TermsBoundsTest::firstOfPromiseOf);
        test("the exception that is named first: where", TermsBoundsTest::firstOfWhere);
        test("the exception that is named first: fewest", TermsBoundsTest::firstOfFewest);
    }

    // ---- what it is

    private static void lastCall() {
        StormPurses x = new StormPurses();
        storms(x, 505);
        due("the 506th call, undo()", x.undo(), 5);
        due("the 507th call, trade", x.trade(0, 0, 2, 1, 1, 1), 0);
        due("the 508th call, promise", x.promise(3, 0, 9, 9), 0);
        due("the 509th call, fulfil(0)", x.fulfil(0), 1);
        due("the 510th call, append", x.append('s'), 1);
        due("the 511th call, run()", x.run(), 1);
        due("the 512th call, count(0)", x.count(0), 505);
    }

    // ---- purses

    private static void islanders() {
        StormPurses x = new StormPurses();
        int sum = 0;
        for (int islander = 0; islander < 8; islander++) {
            sum += x.islanderOf(islander, 0);
        }
        due("all purses together", sum, x.count(2));
        dueRange(x, 0, 7, INDEX, islander -> x.islanderOf(islander, 0));
    }

    private static void colours() {
        StormPurses x = mixed();
        due("all colours of a purse", x.caps(0, 0) + x.caps(0, 1) + x.caps(0, 2) + x.caps(0, 3), 4 + 2 + 1 + 1);
        dueRange(x, 0, 3, INDEX, colour -> x.caps(0, colour));
    }

    private static void pursesBeginAgainBehindColourThree() {
        StormPurses x = new StormPurses();
        for (int islander = 0; islander < 4; islander++) {
            due("caps of the islander " + islander, x.caps(islander, islander), 10);
            due("caps of the islander " + (islander + 4), x.caps(islander + 4, islander), 10);
        }
    }

    private static void pursesHoldNoOthers() {
        StormPurses x = new StormPurses();
        due("caps on the island", x.count(1), 80);
        for (int islander = 0; islander < 8; islander++) {
            for (int colour = 0; colour < 4; colour++) {
                due("caps(" + islander + ", " + colour + ")", x.caps(islander, colour), colour == islander % 4 ? 10 : 0);
            }
        }
    }

    private static void leastAndMostWorth() {
        StormPurses x = new StormPurses();
        for (int colour = 0; colour < 4; colour++) {
            x.worth(colour, 1);
            due("of the least worth", x.islanderOf(colour, 0), 10);
            x.worth(colour, 9);
            due("of the most worth", x.islanderOf(colour, 0), 90);
        }
        due("all of the most worth", x.count(2), 720);
    }

    private static void worthsAtFirst() {
        StormPurses x = new StormPurses();
        int[] worths = {1, 2, 5, 9};
        for (int colour = 0; colour < 4; colour++) {
            due("the purse of the colour " + colour, x.islanderOf(colour, 0), 10 * worths[colour]);
            due("worth(" + colour + ", 3)", x.worth(colour, 3), worths[colour]);
        }
    }

    // ---- storms

    private static void eachGetsOnePurse() {
        StormPurses x = new StormPurses();
        for (int one = 0; one < 8; one++) {
            for (int other = 7; other >= one; other--) {
                x.cross(one, other);
                int reached = 0;
                for (int islander = 0; islander < 8; islander++) {
                    reached |= 1 << x.islanderOf(islander, 1);
                }
                due("who gets one, behind cross(" + one + ", " + other + ")", reached, 255);
            }
        }
        x.storm();
        due("caps on the island", x.count(1), 80);
    }

    private static void pathAtFirst() {
        StormPurses x = new StormPurses();
        for (int islander = 0; islander < 7; islander++) {
            due("islanderOf(" + islander + ", 1)", x.islanderOf(islander, 1), islander + 1);
        }
    }

    private static void pathOfLast() {
        StormPurses x = mixed();
        x.cross(0, 7);
        x.cross(0, 7);
        due("islanderOf(7, 1)", x.islanderOf(7, 1), 0);
        x.trade(7, 3, 1, 6, 2, 1);
        x.storm();
        duePurse(x, 0, 0, 0, 1, 9);
    }

    private static void pursesGoAtOnce() {
        StormPurses x = new StormPurses();
        lead(x, 1, 0);
        lead(x, 0, 1);
        lead(x, 6, 7);
        lead(x, 7, 6);
        x.storm();
        duePurse(x, 0, 0, 10, 0, 0);
        duePurse(x, 1, 10, 0, 0, 0);
        duePurse(x, 6, 0, 0, 0, 10);
        duePurse(x, 7, 0, 0, 10, 0);
    }

    private static void purseStays() {
        StormPurses x = new StormPurses();
        lead(x, 0, 0);
        lead(x, 7, 7);
        x.storm();
        duePurse(x, 0, 10, 0, 0, 0);
        duePurse(x, 7, 0, 0, 0, 10);
    }

    private static void dayGrows() {
        StormPurses x = new StormPurses();
        for (int day = 1; day <= 20; day++) {
            x.storm();
            due("count(0)", x.count(0), day);
        }
        due("thirty more", typeAndRun(x, "s" + ";s".repeat(29)), 30);
        due("count(0)", x.count(0), 50);
    }

    // ---- trades

    private static void firstHasTooFew() {
        StormPurses x = new StormPurses();
        due("one more than all", x.trade(0, 0, 11, 1, 1, 5), 1);
        due("one where none is", x.trade(0, 2, 1, 1, 1, 2), 1);
        due("just all", x.trade(0, 0, 10, 1, 1, 5), 0);
        due("one more, with none left", x.trade(0, 0, 1, 1, 1, 1), 1);
        due("none, with none left", x.trade(0, 0, 0, 1, 1, 0), 0);
    }

    private static void secondHasTooFew() {
        StormPurses x = new StormPurses();
        due("one more than all", x.trade(1, 1, 5, 0, 0, 11), 2);
        due("one where none is", x.trade(1, 1, 5, 0, 2, 1), 2);
        due("just all", x.trade(1, 1, 5, 0, 0, 10), 0);
        due("one more, with none left", x.trade(1, 1, 1, 0, 0, 1), 2);
        due("none, with none left", x.trade(1, 1, 0, 0, 0, 0), 0);
    }

    private static void tooFewBeforeTrade() {
        StormPurses x = new StormPurses();
        due("the second one would give what it gets", x.trade(0, 0, 5, 1, 0, 5), 2);
        due("the first one would give what it gets", x.trade(0, 1, 5, 1, 1, 5), 1);
        due("one colour for the same", x.trade(0, 0, 10, 4, 0, 10), 0);
        duePurse(x, 0, 10, 0, 0, 0);
        duePurse(x, 4, 10, 0, 0, 0);
    }

    private static void unfair() {
        for (int setting = 0; setting <= 9; setting++) {
            StormPurses x = new StormPurses();
            x.set(setting);
            due("by 1 more than " + setting, x.trade(0, 0, setting + 1, 1, 1, 0), 3);
            due("by just " + setting, x.trade(0, 0, setting, 1, 1, 0), 0);
        }
    }

    private static void unfairToEither() {
        for (int setting = 0; setting <= 9; setting++) {
            StormPurses x = new StormPurses();
            x.set(setting);
            due("by 1 more than " + setting, x.trade(1, 1, 0, 0, 0, setting + 1), 3);
            due("by just " + setting, x.trade(1, 1, 0, 0, 0, setting), 0);
        }
    }

    private static void firstOfReasons() {
        StormPurses x = new StormPurses();
        due("1, 2 and 3", x.trade(0, 0, 11, 1, 1, 11), 1);
        due("1 and 2", x.trade(0, 0, 22, 1, 1, 11), 1);
        due("1 and 3", x.trade(0, 0, 11, 1, 1, 1), 1);
        due("1", x.trade(0, 1, 1, 1, 1, 1), 1);
        due("2 and 3", x.trade(0, 0, 1, 1, 3, 1), 2);
        due("2", x.trade(0, 0, 9, 1, 3, 1), 2);
        due("3", x.trade(0, 0, 1, 1, 1, 1), 3);
        due("none", x.trade(0, 0, 2, 1, 1, 1), 0);
    }

    private static void refusedTradeMovesNothing() {
        StormPurses x = new StormPurses();
        x.trade(0, 0, 11, 1, 1, 5);
        x.trade(0, 0, 10, 1, 3, 1);
        x.trade(0, 0, 10, 1, 1, 4);
        duePurse(x, 0, 10, 0, 0, 0);
        duePurse(x, 1, 0, 10, 0, 0);
        dueCounts(x, 0, 0, 0, 3);
    }

    private static void leastAndMostSetting() {
        StormPurses x = new StormPurses();
        dueRange(x, 0, 9, ARGUMENT, x::set);
        due("count(8)", x.count(8), 9);
        x.set(0);
        due("count(8)", x.count(8), 0);
    }

    private static void settingAtFirst() {
        StormPurses x = new StormPurses();
        due("count(8)", x.count(8), 0);
        due("a gift", x.trade(0, 0, 1, 1, 1, 0), 3);
    }

    // ---- promises

    /** Eight promises of the islander 0 to 1, of the sums 1 to 8. */
    private static StormPurses eight() {
        StormPurses x = new StormPurses();
        for (int number = 0; number < 8; number++) {
            x.promise(0, 1, number + 1, 9);
        }
        return x;
    }

    private static void eightPromises() {
        StormPurses x = eight();
        due("count(3)", x.count(3), 8);
        due("refused so far", x.count(7), 0);
        due("a ninth one", x.promise(2, 3, 50, 0), StormPurses.NONE);
        due("count(3)", x.count(3), 8);
        due("refused so far", x.count(7), 1);
        for (int number = 0; number < 8; number++) {
            due("the sum of " + number, x.promiseOf(number, 2), number + 1);
        }
        x.fulfil(0);
        due("another eighth one", x.promise(2, 3, 50, 0), 7);
    }

    private static void numbersFromZero() {
        StormPurses x = new StormPurses();
        dueThrows(x, "promiseOf(0, 0) of none", INDEX, () -> x.promiseOf(0, 0));
        for (int number = 0; number < 8; number++) {
            due("promise", x.promise(0, 1, 1, 0), number);
            int behind = number + 1;
            dueThrows(x, "promiseOf(" + behind + ", 0)", INDEX, () -> x.promiseOf(behind, 0));
            due("promiseOf(" + number + ", 1)", x.promiseOf(number, 1), 1);
        }
        dueThrows(x, "promiseOf(-1, 0)", INDEX, () -> x.promiseOf(-1, 0));
    }

    private static void goneAt(int gone) {
        StormPurses x = eight();
        due("fulfil(" + gone + ")", x.fulfil(gone), gone + 1);
        due("count(3)", x.count(3), 7);
        for (int number = 0; number < 7; number++) {
            due("the sum of " + number, x.promiseOf(number, 2), number < gone ? number + 1 : number + 2);
        }
        dueThrows(x, "promiseOf(7, 2)", INDEX, () -> x.promiseOf(7, 2));
    }

    private static void brokenBetween() {
        StormPurses x = new StormPurses();
        int[] days = {0, 1, 0, 0, 1, 0, 1, 0};
        for (int number = 0; number < 8; number++) {
            x.promise(number, 7 - number, 10 + number, days[number]);
        }
        due("storm()", x.storm(), 5);
        due("count(3)", x.count(3), 3);
        int[] held = {1, 4, 6};
        for (int number = 0; number < 3; number++) {
            due("from whom " + number + " is", x.promiseOf(number, 0), held[number]);
            due("to whom " + number + " is", x.promiseOf(number, 1), 7 - held[number]);
            due("the sum of " + number, x.promiseOf(number, 2), 10 + held[number]);
            due("the day of " + number, x.promiseOf(number, 3), 1);
        }
        dueThrows(x, "promiseOf(3, 2)", INDEX, () -> x.promiseOf(3, 2));
    }

    private static void promiseStaysWithIslanders() {
        StormPurses x = new StormPurses();
        x.promise(7, 0, 9, 9);
        x.storm();
        due("from whom it is", x.promiseOf(0, 0), 7);
        due("to whom it is", x.promiseOf(0, 1), 0);
        due("fulfil(0) with fives", x.fulfil(0), StormPurses.NONE);
        x.storm();
        due("fulfil(0) with twos", x.fulfil(0), StormPurses.NONE);
        x.storm();
        due("fulfil(0) with ones", x.fulfil(0), 9);
        duePurse(x, 7, 1, 0, 0, 0);
        duePurse(x, 0, 9, 10, 0, 0);
    }

    private static void justTheSum() {
        StormPurses x = new StormPurses();
        x.promise(2, 0, 4, 9);
        x.promise(2, 0, 5, 9);
        x.promise(2, 0, 6, 9);
        due("less than one cap", x.fulfil(0), StormPurses.NONE);
        due("more than one cap", x.fulfil(2), StormPurses.NONE);
        due("just one cap", x.fulfil(1), 1);
        duePurse(x, 2, 0, 0, 9, 0);
        StormPurses threes = new StormPurses();
        threes.worth(0, 3);
        for (int sum = 1; sum <= 8; sum++) {
            threes.promise(0, 1, sum, 0);
        }
        for (int sum = 8; sum >= 1; sum--) {
            due("threes for " + sum, threes.fulfil(sum - 1), sum % 3 == 0 ? sum / 3 : StormPurses.NONE);
        }
        duePurse(threes, 0, 7, 0, 0, 0);
    }

    private static void wholePurse() {
        StormPurses x = new StormPurses();
        x.promise(3, 0, 91, 9);
        x.promise(3, 0, 99, 9);
        x.promise(3, 0, 90, 9);
        due("one more than the purse", x.fulfil(0), StormPurses.NONE);
        due("one cap more than the purse", x.fulfil(1), StormPurses.NONE);
        due("just the purse", x.fulfil(2), 10);
        duePurse(x, 3, 0, 0, 0, 0);
        duePurse(x, 0, 10, 0, 0, 10);
    }

    private static void fewestCaps() {
        StormPurses x = mixed();
        x.worth(1, 6);
        x.worth(2, 4);
        x.promise(0, 7, 12, 0);
        due("6 + 6, not 9 + 1 + 1 + 1", x.fulfil(0), 2);
        duePurse(x, 0, 4, 0, 1, 1);
    }

    /** The islander 0 has two caps of each colour but one of the colour 3; the worths are these. */
    private static StormPurses twos(int zeroth, int first, int second, int third) {
        StormPurses x = new StormPurses();
        x.set(9);
        x.trade(0, 0, 2, 1, 1, 2);
        x.trade(0, 0, 4, 2, 2, 2);
        x.trade(0, 0, 2, 3, 3, 1);
        x.worth(0, zeroth);
        x.worth(1, first);
        x.worth(2, second);
        x.worth(3, third);
        duePurse(x, 0, 2, 2, 2, 1);
        return x;
    }

    private static void mostOfColourThree() {
        StormPurses x = twos(1, 2, 3, 4);
        x.promise(0, 7, 6, 0);
        due("4 + 2, not 3 + 3", x.fulfil(0), 2);
        duePurse(x, 0, 2, 1, 2, 0);
        StormPurses alike = twos(5, 5, 5, 5);
        alike.promise(0, 7, 5, 0);
        due("one of four colours", alike.fulfil(0), 1);
        duePurse(alike, 0, 2, 2, 2, 0);
    }

    private static void mostOfColourTwo() {
        StormPurses x = twos(2, 3, 4, 9);
        x.promise(0, 7, 6, 0);
        due("4 + 2, not 3 + 3", x.fulfil(0), 2);
        duePurse(x, 0, 1, 2, 1, 1);
        StormPurses alike = twos(5, 5, 5, 5);
        alike.promise(0, 7, 15, 0);
        due("three of four colours", alike.fulfil(0), 3);
        duePurse(alike, 0, 2, 2, 0, 0);
    }

    private static void mostOfColourOne() {
        StormPurses x = twos(3, 3, 8, 8);
        x.promise(0, 7, 9, 0);
        due("two of the colour 1 and one of 0", x.fulfil(0), 3);
        duePurse(x, 0, 1, 0, 2, 1);
        StormPurses alike = twos(5, 5, 5, 5);
        alike.promise(0, 7, 20, 0);
        due("four of four colours", alike.fulfil(0), 4);
        duePurse(alike, 0, 2, 1, 0, 0);
    }

    private static void noWay() {
        StormPurses x = new StormPurses();
        x.promise(1, 0, 7, 3);
        due("an odd sum of twos", x.fulfil(0), StormPurses.NONE);
        dueCounts(x, 0, 0, 0, 1);
        duePurse(x, 1, 0, 10, 0, 0);
        duePurse(x, 0, 10, 0, 0, 0);
        due("it stays", x.count(3), 1);
        due("its sum", x.promiseOf(0, 2), 7);
        due("again", x.fulfil(0), StormPurses.NONE);
        dueCounts(x, 0, 0, 0, 2);
    }

    private static void emptyPurse() {
        StormPurses x = new StormPurses();
        x.promise(0, 1, 10, 9);
        x.promise(0, 1, 1, 9);
        due("all caps", x.fulfil(0), 10);
        due("without caps", x.fulfil(0), StormPurses.NONE);
        duePurse(x, 0, 0, 0, 0, 0);
        dueCounts(x, 0, 1, 0, 1);
    }

    private static void keptIsGone() {
        StormPurses x = new StormPurses();
        x.promise(0, 1, 1, 9);
        due("fulfil(0)", x.fulfil(0), 1);
        due("count(3)", x.count(3), 0);
        dueThrows(x, "fulfil(0) again", INDEX, () -> x.fulfil(0));
        storms(x, 10);
        dueCounts(x, 0, 1, 0, 0);
    }

    private static void brokenBehindDay() {
        for (int days = 0; days <= 9; days++) {
            StormPurses x = new StormPurses();
            x.storm();
            x.promise(0, 1, 99, days);
            storms(x, days);
            due("broken, " + days + " days on", x.storm(), 1);
            due("count(3)", x.count(3), 0);
            due("count(6)", x.count(6), 1);
        }
    }

    private static void heldOnDay() {
        for (int days = 1; days <= 9; days++) {
            StormPurses x = new StormPurses();
            x.storm();
            x.promise(0, 1, 99, days);
            storms(x, days - 1);
            due("broken on the day", x.storm(), 0);
            due("its day", x.promiseOf(0, 3), x.count(0));
            due("count(6)", x.count(6), 0);
        }
    }

    private static void dueToday() {
        StormPurses x = new StormPurses();
        x.promise(0, 1, 1, 0);
        x.promise(0, 1, 1, 0);
        due("kept today", x.fulfil(0), 1);
        due("broken by the next storm", x.storm(), 1);
        dueCounts(x, 0, 1, 1, 0);
    }

    // ---- orders

    private static String eachSign() {
        StringBuilder all = new StringBuilder();
        for (char sign = 33; sign <= 126; sign++) {
            all.append(sign);
        }
        return all.toString();
    }

    /** Just these characters may come behind the text, which has no syntax error. */
    private static void next(String text, String fine) {
        for (char sign : EACH_SIGN.toCharArray()) {
            StormPurses x = new StormPurses();
            type(x, text);
            due("firstError() of " + text, x.firstError(), text.length());
            x.append(sign);
            boolean isFine = fine.indexOf(sign) >= 0;
            due("firstError() of " + text + sign, x.firstError(), isFine ? text.length() + 1 : text.length());
        }
    }

    private static void sixtyCharacters() {
        StormPurses x = new StormPurses();
        type(x, "s;".repeat(29) + "x0");
        due("the sixtieth", x.firstError(), 60);
        dueThrows(x, "a sixty-first", STATE, () -> x.append('1'));
        due("clearBuffer()", x.clearBuffer(), 60);
        due("append", x.append('s'), 1);
    }

    private static void noOrder() {
        StormPurses x = new StormPurses();
        due("firstError()", x.firstError(), 0);
        dueThrows(x, "run()", ARGUMENT, x::run);
    }

    private static void oneOrder() {
        due("s", typeAndRun(new StormPurses(), "s"), 1);
        due("x", typeAndRun(new StormPurses(), "x70"), 1);
        due("p", typeAndRun(new StormPurses(), "p70=99/9"), 1);
        due("k", typeAndRun(new StormPurses(), "k7"), 0);
        due("thirty", typeAndRun(new StormPurses(), "s" + ";s".repeat(29)), 30);
    }

    private static void signsBetween() {
        for (String text : new String[] {";s", "s;", "s;;s", "s;s;", ";"}) {
            StormPurses x = new StormPurses();
            type(x, text);
            dueThrows(x, "run() of " + text, ARGUMENT, x::run);
        }
    }

    private static void sameDigit() {
        for (int from = 0; from < 8; from++) {
            next("p" + from, "01234567".replace(Integer.toString(from), ""));
        }
    }

    private static void secondDigit() {
        for (int digit = 1; digit <= 9; digit++) {
            next("p01=" + digit, "0123456789/");
        }
    }

    private static void thirdDigit() {
        for (int sum : new int[] {10, 11, 50, 90, 98, 99}) {
            next("p01=" + sum, "/");
        }
    }

    private static void days() {
        for (int sum : new int[] {1, 9, 10, 99}) {
            next("p01=" + sum + "/", "0123456789");
        }
    }

    private static void behindDays() {
        for (int days : new int[] {0, 1, 9}) {
            next("p01=1/" + days, ";");
            next("p01=99/" + days, ";");
        }
    }

    private static void behindSemicolon() {
        for (String order : new String[] {"s", "x77", "p10=1/0", "p67=99/9", "k0"}) {
            next(order + ";", "sxpk");
            next(order + ";p7", "0123456");
            next(order + ";p70=10", "/");
        }
    }

    private static void wholeTexts() {
        String all = "s;x07;p70=9/0;p01=10/9;k7";
        List<Integer> ends = List.of(1, 5, 13, 22, 25);
        for (int length = 0; length <= all.length(); length++) {
            StormPurses x = new StormPurses();
            type(x, all.substring(0, length));
            due("firstError()", x.firstError(), length);
            if (ends.contains(length)) {
                x.run();
                due("the buffer behind run()", x.clearBuffer(), 0);
            } else {
                dueThrows(x, "run() of " + all.substring(0, length), ARGUMENT, x::run);
                due("the buffer behind no run()", x.clearBuffer(), length);
            }
        }
    }

    /** The buffer has no place for what is still wanting, but orders that are longer begin so. */
    private static void anyLength() {
        String[] texts = {"s;".repeat(30), "s;".repeat(29) + "x0", "s;".repeat(28) + "p01=", "s;".repeat(27) + "p01=1/",
            "k0;" + "s;".repeat(28) + "p", "k0;" + "s;".repeat(28) + "x", "k0;" + "s;".repeat(28) + "k"};
        for (String text : texts) {
            StormPurses x = new StormPurses();
            type(x, text);
            due("firstError() of " + text, x.firstError(), 60);
            dueThrows(x, "run() of " + text, ARGUMENT, x::run);
        }
    }

    private static void leftToRight() {
        StormPurses x = new StormPurses();
        type(x, "!?s;x8");
        due("the first of several", x.firstError(), 0);
        x.clearBuffer();
        type(x, "s;x8;!");
        due("the first of several", x.firstError(), 3);
        x.clearBuffer();
        type(x, "s;".repeat(29) + "s!");
        due("the last one of a full buffer", x.firstError(), 59);
    }

    // ---- snapshots

    private static void twoSlots() {
        StormPurses x = new StormPurses();
        dueRange(x, 0, 1, ARGUMENT, x::keep);
        dueRange(x, 0, 1, ARGUMENT, x::goBack);
        x.storm();
        x.keep(1);
        due("goBack(0)", x.goBack(0), 0);
        due("goBack(1)", x.goBack(1), 1);
    }

    private static void snapshotIsAll() {
        StormPurses x = new StormPurses();
        x.promise(0, 1, 1, 9);
        x.promise(0, 1, 1, 0);
        x.promise(4, 1, 1, 9);
        x.fulfil(0);
        x.trade(0, 0, 2, 1, 1, 1);
        x.trade(0, 0, 99, 1, 1, 1);
        x.storm();
        x.promise(7, 0, 99, 9);
        x.promise(7, 0, 98, 0);
        x.cross(2, 5);
        x.worth(2, 8);
        x.set(6);
        x.keep(0);
        long before = x.digest();
        x.promise(1, 2, 1, 0);
        x.fulfil(3);
        typeAndRun(x, "s;x30;p12=5/6;p12=5/6;k7");
        x.trade(1, 1, 0, 2, 2, 0);
        x.trade(1, 0, 99, 2, 0, 0);
        x.worth(2, 1);
        x.set(0);
        dueCounts(x, 2, 2, 2, 2);
        x.goBack(0);
        due("digest()", x.digest(), before);
        dueCounts(x, 1, 1, 1, 1);
        due("the day", x.count(0), 1);
        due("promises", x.count(3), 3);
        due("the last promise", x.promiseOf(2, 2), 98);
        due("the setting", x.count(8), 6);
        due("the path", x.islanderOf(2, 1), 6);
        due("a worth", x.worth(2, 1), 8);
    }

    private static void snapshotOfEight() {
        StormPurses x = eight();
        x.keep(0);
        x.goBack(0);
        storms(x, 10);
        for (int number = 0; number < 8; number++) {
            x.promise(7, 6, 99, 0);
        }
        x.goBack(0);
        dueEight(x);
    }

    private static void dueEight(StormPurses x) {
        due("count(3)", x.count(3), 8);
        for (int number = 0; number < 8; number++) {
            due("from whom " + number + " is", x.promiseOf(number, 0), 0);
            due("to whom " + number + " is", x.promiseOf(number, 1), 1);
            due("the sum of " + number, x.promiseOf(number, 2), number + 1);
            due("the day of " + number, x.promiseOf(number, 3), 9);
        }
    }

    private static void snapshotWithoutBuffer() {
        StormPurses x = new StormPurses();
        type(x, "s;s");
        x.keep(0);
        x.clearBuffer();
        x.goBack(0);
        due("an empty buffer stays so", x.clearBuffer(), 0);
        type(x, "x01;");
        x.goBack(0);
        due("a buffer stays", x.clearBuffer(), 4);
    }

    private static void snapshotWithoutSlots() {
        StormPurses x = new StormPurses();
        x.keep(0);
        x.storm();
        x.keep(1);
        x.storm();
        x.goBack(0);
        due("the other slot stays", x.goBack(1), 1);
        due("the slot itself stays", x.goBack(0), 0);
    }

    private static void snapshotWithoutSaved() {
        StormPurses x = new StormPurses();
        x.keep(0);
        storms(x, 4);
        due("saved states", x.count(9), 4);
        x.goBack(0);
        due("saved states", x.count(9), 5);
        x.undo();
        due("the day before", x.count(0), 4);
        x.undo();
        due("the day before that", x.count(0), 3);
    }

    // ---- saved states

    /** The call saves one state, which is that from before it. */
    private static void saves(CallOn call) {
        StormPurses x = new StormPurses();
        x.promise(1, 0, 7, 9);
        x.promise(3, 0, 9, 9);
        x.promise(5, 4, 99, 8);
        x.keep(0);
        long before = x.digest();
        call.go(x);
        due("count(9)", x.count(9), 4);
        due("undo()", x.undo(), 3);
        due("digest()", x.digest(), before);
    }

    private static void refusedPromiseSaves() {
        StormPurses x = eight();
        due("saved states", x.undo(), 5);
        due("the eighth one", x.promise(1, 2, 3, 4), 7);
        due("undo()", x.undo(), 5);
        x.promise(1, 2, 3, 4);
        due("a ninth one", x.promise(1, 2, 3, 4), StormPurses.NONE);
        due("refused so far", x.count(7), 1);
        due("undo()", x.undo(), 5);
        due("refused so far", x.count(7), 0);
        due("promises", x.count(3), 8);
    }

    private static void eightAreSaved() {
        StormPurses x = eight();
        due("run()", typeAndRun(x, "k7;p76=99/0;k0;p67=98/1;k0"), 4);
        due("promises", x.count(3), 8);
        due("undo()", x.undo(), 5);
        dueEight(x);
    }

    private static void othersSaveNothing() {
        StormPurses x = eight();
        x.undo();
        type(x, "s");
        x.firstError();
        x.clearBuffer();
        x.keep(0);
        x.keep(1);
        looks(x);
        due("count(9)", x.count(9), 5);
        due("undo() itself", x.undo(), 4);
        due("promises", x.count(3), 6);
    }

    private static void looks(StormPurses x) {
        x.caps(0, 0);
        x.islanderOf(0, 2);
        x.promiseOf(0, 4);
        x.owed(0, 1);
        x.count(2);
        x.where(0, 9, 0);
        x.where(0, 9, 1);
        x.homeIn(0);
        x.homeIn(1);
        x.fewest(0, 9, 0);
        x.fewest(0, 9, 1);
        x.richest();
        x.canKeepIn(0);
        x.richShare();
        x.digest();
    }

    private static void countsAreSaved() {
        StormPurses x = new StormPurses();
        x.promise(0, 1, 1, 0);
        x.promise(0, 1, 1, 0);
        x.trade(0, 0, 2, 1, 1, 1);
        x.trade(0, 0, 99, 1, 1, 1);
        x.fulfil(0);
        x.storm();
        dueCounts(x, 1, 1, 1, 1);
        x.undo();
        dueCounts(x, 1, 1, 0, 1);
        x.undo();
        dueCounts(x, 1, 0, 0, 1);
        x.undo();
        dueCounts(x, 1, 0, 0, 0);
        x.undo();
        dueCounts(x, 0, 0, 0, 0);
    }

    private static void bufferIsNotSaved() {
        StormPurses x = new StormPurses();
        type(x, "x01");
        x.storm();
        type(x, ";");
        x.undo();
        due("the buffer stays", x.clearBuffer(), 4);
        typeAndRun(x, "s;s");
        x.undo();
        due("a buffer that was run stays cleared", x.clearBuffer(), 0);
    }

    private static void slotsAreNotSaved() {
        StormPurses x = new StormPurses();
        x.keep(0);
        x.storm();
        x.keep(0);
        x.keep(1);
        x.undo();
        due("the day", x.count(0), 0);
        due("a slot stays filled", x.goBack(1), 1);
        due("a slot stays as it is", x.goBack(0), 1);
    }

    private static void sixStates() {
        StormPurses x = new StormPurses();
        for (int many = 1; many <= 20; many++) {
            x.storm();
            due("count(9)", x.count(9), Math.min(many, 6));
        }
        for (int left = 5; left >= 0; left--) {
            due("undo()", x.undo(), left);
        }
        dueThrows(x, "undo() of none", STATE, x::undo);
    }

    private static void oldestIsDropped() {
        StormPurses x = new StormPurses();
        x.set(9);
        storms(x, 6);
        for (int day = 5; day >= 0; day--) {
            x.undo();
            due("the day", x.count(0), day);
        }
        due("the setting, whose state is dropped", x.count(8), 9);
        dueThrows(x, "undo() of none", STATE, x::undo);
    }

    // ---- exceptions

    /** Each way to throw but those of storm() and undo(), in a state as full() makes it. */
    private static List<CallOn> throwing() {
        List<CallOn> all = new ArrayList<>(List.of(
            x -> x.cross(8, 0), x -> x.cross(0, -1), x -> x.trade(8, 0, 0, 1, 0, 0), x -> x.trade(0, 4, 0, 1, 0, 0),
            x -> x.trade(0, 0, 0, 8, 0, 0), x -> x.trade(0, 0, 0, 1, 4, 0), x -> x.trade(0, 0, 0, 0, 0, 0),
            x -> x.trade(0, 0, 100, 1, 0, 0), x -> x.trade(0, 0, 0, 1, 0, -1)));
        all.addAll(List.of(
            x -> x.worth(4, 1), x -> x.worth(0, 0), x -> x.worth(0, 10), x -> x.set(-1), x -> x.set(10),
            x -> x.promise(8, 0, 1, 0), x -> x.promise(0, -1, 1, 0), x -> x.promise(0, 0, 1, 0)));
        all.addAll(List.of(
            x -> x.promise(0, 1, 0, 0), x -> x.promise(0, 1, 100, 0), x -> x.promise(0, 1, 1, 10),
            x -> x.fulfil(-1), x -> x.fulfil(2), x -> x.append(32), x -> x.append(127), x -> x.append('s')));
        all.addAll(List.of(
            StormPurses::run, x -> x.keep(-1), x -> x.keep(2), x -> x.goBack(-1), x -> x.goBack(2), x -> x.goBack(1),
            x -> x.caps(8, 0), x -> x.caps(0, 4), x -> x.islanderOf(8, 0), x -> x.islanderOf(0, 5)));
        all.addAll(List.of(
            x -> x.promiseOf(2, 0), x -> x.promiseOf(0, 5), x -> x.owed(8, 0), x -> x.owed(0, 8), x -> x.count(10),
            x -> x.where(8, 0, 0), x -> x.where(0, 1001, 0), x -> x.where(0, 0, 2), x -> x.homeIn(2)));
        all.addAll(List.of(
            x -> x.fewest(8, 1, 0), x -> x.fewest(0, 100, 0), x -> x.fewest(0, 1, 2), x -> x.canKeepIn(2)));
        return all;
    }

    /** All six states are saved, the buffer is full, the slot 0 is filled and the slot 1 is empty. */
    private static StormPurses full() {
        StormPurses x = new StormPurses();
        x.keep(0);
        x.promise(0, 1, 7, 9);
        x.promise(1, 0, 7, 9);
        storms(x, 6);
        type(x, "s;".repeat(30));
        return x;
    }

    private static void mustThrow(StormPurses x, CallOn call, int which) {
        boolean thrown = false;
        try {
            call.go(x);
        } catch (RuntimeException e) {
            thrown = true;
        }
        due("the call " + which + " throws (1)", thrown ? 1 : 0, 1);
    }

    private static void throwingKeepsSaved() {
        List<CallOn> all = throwing();
        for (int which = 0; which < all.size(); which++) {
            StormPurses x = full();
            long before = x.digest();
            mustThrow(x, all.get(which), which);
            due("digest() behind the call " + which, x.digest(), before);
            for (int left = 5; left >= 0; left--) {
                due("undo() behind the call " + which, x.undo(), left);
                due("the day behind the call " + which, x.count(0), left);
            }
            due("promises behind the call " + which, x.count(3), 2);
        }
    }

    private static void throwingKeepsBuffer() {
        List<CallOn> all = throwing();
        for (int which = 0; which < all.size(); which++) {
            StormPurses x = full();
            mustThrow(x, all.get(which), which);
            due("firstError() behind the call " + which, x.firstError(), 60);
            due("clearBuffer() behind the call " + which, x.clearBuffer(), 60);
        }
    }

    private static void throwingKeepsSnapshots() {
        List<CallOn> all = throwing();
        for (int which = 0; which < all.size(); which++) {
            StormPurses x = full();
            mustThrow(x, all.get(which), which);
            due("goBack(0) behind the call " + which, x.goBack(0), 0);
            due("promises behind the call " + which, x.count(3), 0);
            dueThrows(x, "goBack(1) behind the call " + which, STATE, () -> x.goBack(1));
        }
    }

    private static void firstOfTrade() {
        StormPurses x = new StormPurses();
        dueThrows(x, "no first one, and too many", INDEX, () -> x.trade(8, 0, 100, 1, 0, -1));
        dueThrows(x, "no colour, and the same", INDEX, () -> x.trade(0, 4, 0, 0, 0, 0));
        dueThrows(x, "no second one, and too many", INDEX, () -> x.trade(0, 0, 100, 8, 0, 0));
        dueThrows(x, "no other colour, and all else", INDEX, () -> x.trade(0, 0, -1, 0, -1, 100));
        dueThrows(x, "no first one twice", INDEX, () -> x.trade(-1, 0, 0, -1, 0, 0));
    }

    private static void firstOfWorth() {
        StormPurses x = new StormPurses();
        dueThrows(x, "worth(4, 0)", INDEX, () -> x.worth(4, 0));
        dueThrows(x, "worth(-1, 10)", INDEX, () -> x.worth(-1, 10));
    }

    private static void firstOfPromise() {
        StormPurses x = new StormPurses();
        dueThrows(x, "no islander twice", INDEX, () -> x.promise(8, 8, 1, 0));
        dueThrows(x, "no islander, and no sum", INDEX, () -> x.promise(0, -1, 0, 0));
        dueThrows(x, "no islander, and too many days", INDEX, () -> x.promise(-1, 0, 1, 10));
    }

    private static void firstOfAppend() {
        StormPurses x = full();
        dueThrows(x, "append(32) to 60", ARGUMENT, () -> x.append(32));
        dueThrows(x, "append(127) to 60", ARGUMENT, () -> x.append(127));
        dueThrows(x, "append(33) to 60", STATE, () -> x.append(33));
    }

    private static void firstOfGoBack() {
        StormPurses x = new StormPurses();
        dueThrows(x, "goBack(-1) without snapshots", ARGUMENT, () -> x.goBack(-1));
        dueThrows(x, "goBack(2) without snapshots", ARGUMENT, () -> x.goBack(2));
        dueThrows(x, "goBack(1) without snapshots", STATE, () -> x.goBack(1));
    }

    private static void firstOfIslanderOf() {
        StormPurses x = new StormPurses();
        dueThrows(x, "islanderOf(8, 5)", INDEX, () -> x.islanderOf(8, 5));
        dueThrows(x, "islanderOf(-1, -1)", INDEX, () -> x.islanderOf(-1, -1));
    }

    private static void firstOfPromiseOf() {
        StormPurses x = new StormPurses();
        dueThrows(x, "promiseOf(0, 5) of none", INDEX, () -> x.promiseOf(0, 5));
        dueThrows(x, "promiseOf(-1, -1)", INDEX, () -> x.promiseOf(-1, -1));
    }

    private static void firstOfWhere() {
        StormPurses x = new StormPurses();
        dueThrows(x, "where(8, 1001, 0)", INDEX, () -> x.where(8, 1001, 0));
        dueThrows(x, "where(-1, 0, 2)", INDEX, () -> x.where(-1, 0, 2));
    }

    private static void firstOfFewest() {
        StormPurses x = new StormPurses();
        dueThrows(x, "fewest(8, 0, 0)", INDEX, () -> x.fewest(8, 0, 0));
        dueThrows(x, "fewest(-1, 1, 2)", INDEX, () -> x.fewest(-1, 1, 2));
    }
}
