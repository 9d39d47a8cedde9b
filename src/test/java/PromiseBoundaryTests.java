/** Each sentence of promises 1 to 26 that names a boundary case, with a test of its own. */
public final class PromiseBoundaryTests extends CaseHelp {
    public static void main(String[] args) {
        newObject();
        settingCalls();
        undoableCalls();
        textCalls();
        undoAndSnapshotCalls();
        looks();
        whatWouldBe();
        CHECKS.end();
    }

    private static void newObject() {
        CHECKS.sentence("1: with an empty line", PromiseBoundaryTests::newLine);
        CHECKS.sentence("1: without a snapshot", PromiseBoundaryTests::newSnapshot);
        CHECKS.sentence("1: with an empty buffer", PromiseBoundaryTests::newBuffer);
        CHECKS.sentence("1: Creates a case as told above", PromiseBoundaryTests::newNumbers);
    }

    private static void settingCalls() {
        CHECKS.sentence("2: letter: 0 to 11", PromiseBoundaryTests::setLetters);
        CHECKS.sentence("2: Throws IllegalStateException if it cannot be set", PromiseBoundaryTests::setRefused);
        CHECKS.sentence("2: Returns the sort of the type that was taken.", PromiseBoundaryTests::setReturns);
        CHECKS.sentence("3: beats: 1 to 99", PromiseBoundaryTests::idleBeats);
        CHECKS.sentence("3: the hand is in no box", PromiseBoundaryTests::idleHand);
        CHECKS.sentence("3: Returns how many types move in them.", PromiseBoundaryTests::idleReturns);
        CHECKS.sentence("4: Throws IndexOutOfBoundsException if there is no such place", PromiseBoundaryTests::fixPlaces);
        CHECKS.sentence("4: Throws IllegalStateException if it cannot be done", PromiseBoundaryTests::fixRefused);
        CHECKS.sentence("4: Returns how many errors are left.", PromiseBoundaryTests::fixReturns);
        CHECKS.sentence("5: Throws IllegalStateException if it cannot be done", PromiseBoundaryTests::backRefused);
        CHECKS.sentence("5: Returns how many types lie wrong then.", PromiseBoundaryTests::backReturns);
        CHECKS.sentence("6: box: 0 to 11, other: 0 to 11", PromiseBoundaryTests::swapBoxes);
        CHECKS.sentence("6: Returns how many types lie wrong then.", PromiseBoundaryTests::swapReturns);
        CHECKS.sentence("7: setting: 0 to 2", PromiseBoundaryTests::changeSettings);
        CHECKS.sentence("7: Throws IllegalArgumentException if value is out of range", PromiseBoundaryTests::changeValues);
        CHECKS.sentence("7: (also a measure that is less than the line)", PromiseBoundaryTests::changeBelowTheLine);
        CHECKS.sentence("7: Returns the previous value.", PromiseBoundaryTests::changeReturns);
        CHECKS.sentence("7: The hand is in no box.", PromiseBoundaryTests::changeHand);
    }

    private static void undoableCalls() {
        CHECKS.sentence("2: Sets a letter. Undoable.", () -> undone(x -> x.set(4)));
        CHECKS.sentence("3: the hand is in no box. Undoable.", () -> undone(x -> x.idle(9)));
        CHECKS.sentence("4: Corrects a place of the line; the hand is in no box. Undoable.", () -> undone(x -> x.fix(0)));
        CHECKS.sentence("5: Returns the line to the case; the hand is in no box. Undoable.", () -> undone(x -> x.back()));
        CHECKS.sentence("6: the hand is in no box. Undoable.", () -> undone(x -> x.swap(4, 5)));
        CHECKS.sentence("6: Undoable, of the same box", () -> undone(x -> x.swap(4, 4)));
        CHECKS.sentence("7: The hand is in no box. Undoable.", () -> undone(x -> x.change(2, 0)));
        CHECKS.sentence("7: Undoable, of the same value", () -> undone(x -> x.change(2, 1)));
        CHECKS.sentence("11: Undoable, as one call", () -> undone(x -> work(x, "swap:ef;set:ee;fix4;idle9;back")));
        CHECKS.sentence("11: Undoable, also if nothing is done", () -> undone(x -> work(x, "fix40")));
        CHECKS.sentence("16: Restores the state of the snapshot. Undoable.", () -> undone(x -> x.restore()));
    }

    private static void textCalls() {
        CHECKS.sentence("8: code: the character code, 33 to 126", PromiseBoundaryTests::appendCodes);
        CHECKS.sentence("8: Throws IllegalStateException if the buffer has 60 characters", PromiseBoundaryTests::appendToFull);
        CHECKS.sentence("8: Returns the new length of the buffer.", PromiseBoundaryTests::appendReturns);
        CHECKS.sentence("9: Clears the buffer. Returns the length that it had.", PromiseBoundaryTests::clearReturns);
        CHECKS.sentence("10: Returns the index of the first character that is a syntax error", PromiseBoundaryTests::firstErrorIndex);
        CHECKS.sentence("10: the length of the buffer if there is none", PromiseBoundaryTests::firstErrorOfNone);
        CHECKS.sentence("11: up to the first part that cannot be done", PromiseBoundaryTests::workUpToAPart);
        CHECKS.sentence("11: those ahead of the one that cannot be set are set", PromiseBoundaryTests::workSetsAhead);
        CHECKS.sentence("11: and clears the buffer", PromiseBoundaryTests::workClears);
        CHECKS.sentence("11: Undoable, as one call, also if nothing is done.", PromiseBoundaryTests::workUndone);
        CHECKS.sentence("11: The latest stop is that of this call then, or none, if all are done.", PromiseBoundaryTests::workStop);
        CHECKS.sentence("11: Returns how many parts are done whole.", PromiseBoundaryTests::workReturns);
        CHECKS.sentence("11: Throws IllegalArgumentException if the buffer is not complete works as a text (the buffer stays)",
                PromiseBoundaryTests::workRefused);
        CHECKS.sentence("12: 0: the number of the part that stopped it, from 0", PromiseBoundaryTests::stoppedPart);
        CHECKS.sentence("12: 1: the reason, 1 to 6, or 7 if the line has no such place", PromiseBoundaryTests::stoppedReason);
        CHECKS.sentence("12: NONE if there is no stop", PromiseBoundaryTests::stoppedNone);
        CHECKS.sentence("12: Throws IllegalArgumentException if what is neither 0 nor 1", PromiseBoundaryTests::stoppedWhat);
        CHECKS.sentence("13: for each place the letter of its type, and behind it \"!\", if the place has an error",
                PromiseBoundaryTests::toldSigns);
        CHECKS.sentence("13: NONE if it has not so many", PromiseBoundaryTests::toldBeyond);
        CHECKS.sentence("13: Throws IllegalArgumentException if index is below 0", PromiseBoundaryTests::toldBelow);
    }

    private static void undoAndSnapshotCalls() {
        CHECKS.sentence("14: Restores the latest saved state, and drops it.", PromiseBoundaryTests::undoLatest);
        CHECKS.sentence("14: Returns how many saved states are left.", PromiseBoundaryTests::undoReturns);
        CHECKS.sentence("14: Throws IllegalStateException if there is none", PromiseBoundaryTests::undoOfNone);
        CHECKS.sentence("15: Takes a snapshot, in place of the one before.", PromiseBoundaryTests::keepInPlace);
        CHECKS.sentence("15: Returns how many types the line has.", PromiseBoundaryTests::keepReturns);
        CHECKS.sentence("16: Restores the state of the snapshot, which stays.", PromiseBoundaryTests::restoreStays);
        CHECKS.sentence("16: Undoable.", PromiseBoundaryTests::restoreUndone);
        CHECKS.sentence("16: Returns how many types the line has then.", PromiseBoundaryTests::restoreReturns);
        CHECKS.sentence("16: Throws IllegalStateException if there is no snapshot", PromiseBoundaryTests::restoreOfNone);
    }

    private static void looks() {
        CHECKS.sentence("17: Throws if there is no such box, if what is not 0 to 6", PromiseBoundaryTests::boxOutside);
        CHECKS.sentence("17: 0: its types; 1: those that lie wrong in it", PromiseBoundaryTests::boxTypes);
        CHECKS.sentence("17: 2: the sort of the upmost one, NONE if it is empty", PromiseBoundaryTests::boxUpmost);
        CHECKS.sentence("17: 4: 1 if the hand is in it, otherwise 0", PromiseBoundaryTests::boxHand);
        CHECKS.sentence("17: 5: 1 if the case is at it, otherwise 0", PromiseBoundaryTests::boxOfTheCase);
        CHECKS.sentence("17: 6: types of its sort that lie in other boxes", PromiseBoundaryTests::boxStrays);
        CHECKS.sentence("18: deep: 0 for the upmost one, and so on; NONE if there are not so many", PromiseBoundaryTests::typeDeep);
        CHECKS.sentence("18: Throws if there is no such box, if deep is below 0", PromiseBoundaryTests::typeOutside);
        CHECKS.sentence("19: Throws if there is no such place, if what is not 0 to 3", PromiseBoundaryTests::lineOutside);
        CHECKS.sentence("19: 2: 1 if it has an error, otherwise 0", PromiseBoundaryTests::lineError);
        CHECKS.sentence("19: 3: why it cannot be corrected: 3 to 5, 0 if it can", PromiseBoundaryTests::lineWhyNot);
        CHECKS.sentence("20: Throws IllegalArgumentException if what is not 0 to 17", PromiseBoundaryTests::countOutside);
        CHECKS.sentence("20: 0: types in the line; 1: its width; 2: its errors", PromiseBoundaryTests::countOfTheLine);
        CHECKS.sentence("20: 3: types in boxes", PromiseBoundaryTests::countInBoxes);
        CHECKS.sentence("20: 4: those that lie wrong; 5: the same, told the second way; 6: 1 if the case is in order",
                PromiseBoundaryTests::countWrong);
        CHECKS.sentence("20: 7: the box in which the hand is, NONE if in none; 8: the box at which the case is",
                PromiseBoundaryTests::countHandAndCase);
        CHECKS.sentence("20: 9 to 13: letters, moved types, beats, corrections, lines so far", PromiseBoundaryTests::countSoFar);
        CHECKS.sentence("20: 9 to 13, of the parts of a text", PromiseBoundaryTests::countSoFarInTexts);
        CHECKS.sentence("20: 14 to 16: the settings 0 to 2; 17: saved states", PromiseBoundaryTests::countSettings);
        CHECKS.sentence("looks; nothing is changed", PromiseBoundaryTests::looksChangeNothing);
    }

    private static void whatWouldBe() {
        CHECKS.sentence("21: Throws IndexOutOfBoundsException if there is no such letter", PromiseBoundaryTests::whyNotOutside);
        CHECKS.sentence("21: Returns the reason, 1 or 2; 0 if it can.", PromiseBoundaryTests::whyNotReasons);
        CHECKS.sentence("22: letter: 0 to 11, times: 1 to 20", PromiseBoundaryTests::ifSetOutside);
        CHECKS.sentence("22: as far as it can be: the box runs out", PromiseBoundaryTests::ifSetRunsOut);
        CHECKS.sentence("22: as far as it can be: the measure", PromiseBoundaryTests::ifSetToTheMeasure);
        CHECKS.sentence("22: Returns how many errors the line would have more", PromiseBoundaryTests::ifSetMore);
        CHECKS.sentence("23: 0 if none moves", PromiseBoundaryTests::sortedInNone);
        CHECKS.sentence("23: none moves any more, when 12 beats passed without one", PromiseBoundaryTests::sortedInTwelve);
        CHECKS.sentence("23: if only idle beats pass, with the hand in no box", PromiseBoundaryTests::sortedInWithoutHand);
        CHECKS.sentence("23: behind how many beats the last type has moved", PromiseBoundaryTests::sortedInLong);
        CHECKS.sentence("24: Tells how many types would lie wrong behind that.", PromiseBoundaryTests::wrongThenLeft);
        CHECKS.sentence("25: its places without an error, divided by all its places", PromiseBoundaryTests::shareOfPlaces);
        CHECKS.sentence("25: 1.0 if it is empty", PromiseBoundaryTests::shareOfNone);
        CHECKS.sentence("26: The hash starts at 3863", PromiseBoundaryTests::digestOfNew);
        CHECKS.sentence("26: 31 * hash + v, in long arithmetic with overflow", PromiseBoundaryTests::digestOverflows);
        CHECKS.sentence("26: each value of the list, of empty and full boxes, lines and buffers", PromiseBoundaryTests::digestOfEdges);
        CHECKS.sentence("what would be; nothing is changed", PromiseBoundaryTests::wouldBeChangesNothing);
    }

    // ---- 1

    private static void newLine() {
        SortCases x = new SortCases();
        is("types", 0, () -> x.count(0));
        is("told(0)", NONE, () -> x.told(0));
        refuses("line(0, 0)", INDEX, () -> x.line(0, 0));
        refuses("fix(0)", INDEX, () -> x.fix(0));
        is("an empty line is kept", 0, x::keep);
    }

    private static void newSnapshot() {
        SortCases x = new SortCases();
        refusesAndKeeps("restore()", x, STATE, x::restore);
    }

    private static void newBuffer() {
        SortCases x = new SortCases();
        is("firstError()", 0, x::firstError);
        refuses("work()", ARGUMENT, x::work);
        is("append('b')", 1, () -> x.append('b'));
        is("clearBuffer() of another one", 0, () -> new SortCases().clearBuffer());
    }

    private static void newNumbers() {
        SortCases x = new SortCases();
        int[] due = {0, 0, 0, 72, 0, 0, 1, NONE, 0, 0, 0, 0, 0, 0, 60, 1, 1, 0};
        for (int what = 0; what < due.length; what++) {
            int asked = what;
            is("count(" + what + ")", due[what], () -> x.count(asked));
        }
        for (int k = 0; k < 12; k++) {
            piles("six of its sort", x, k, String.valueOf((char) ('a' + k)).repeat(6));
        }
        is("no stop", NONE, () -> x.stopped(0));
        is("no stop", NONE, () -> x.stopped(1));
        refuses("no saved state", STATE, x::undo);
    }

    // ---- 2 to 7

    private static void setLetters() {
        SortCases x = new SortCases();
        is("set(0)", 0, () -> x.set(0));
        is("set(11)", 11, () -> x.set(11));
        for (int letter : OUTSIDE_THE_BOXES) {
            refusesAndKeeps("set(" + letter + ")", x, INDEX, () -> x.set(letter));
        }
    }

    private static void setRefused() {
        SortCases x = quietCase();
        work(x, "set:aaaaaa");
        refusesAndKeeps("of an empty box", x, STATE, () -> x.set(0));
        x.change(0, 20);
        refusesAndKeeps("of an empty box, and above the measure", x, STATE, () -> x.set(0));
        refusesAndKeeps("one above the measure", x, STATE, () -> x.set(1));
        is("at the measure", 3, () -> x.set(3));
    }

    private static void setReturns() {
        SortCases x = quietCase();
        x.swap(0, 11);
        is("another sort than the letter", 11, () -> x.set(0));
        is("the letter's sort", 0, () -> x.set(0));
    }

    private static void idleBeats() {
        SortCases x = new SortCases();
        is("idle(1)", 0, () -> x.idle(1));
        is("idle(99)", 0, () -> x.idle(99));
        is("beats", 100, () -> x.count(11));
        is("100 are 8 rounds and 4", 4, () -> x.count(8));
        for (int beats : new int[] {0, 100, -1, MIN, MAX}) {
            refusesAndKeeps("idle(" + beats + ")", x, ARGUMENT, () -> x.idle(beats));
        }
    }

    private static void idleHand() {
        SortCases x = quietCase();
        x.swap(0, 1);
        x.set(1);
        is("in b", 1, () -> x.count(7));
        is("the hand left b ahead of the beats", 1, () -> x.idle(1));
        is("in none", NONE, () -> x.count(7));
    }

    private static void idleReturns() {
        SortCases x = caseWithFullWrongBox();
        is("from b on: the a's of b cannot go into the full box", 0, () -> x.idle(11));
        is("the case is at a", 0, () -> x.count(8));
        is("all 20 of a, one a beat", 20, () -> x.idle(20));
        piles("all of them", x, 0, "");
        is("the a's of b lie under its b's now", 0, () -> x.idle(12));
        is("moves so far", 20, () -> x.count(10));
        is("none", 0, () -> new SortCases().idle(99));
    }

    private static void fixPlaces() {
        SortCases x = quietCase();
        refuses("fix(0) of an empty line", INDEX, () -> x.fix(0));
        x.swap(0, 1);
        work(x, "set:ccca");
        for (int place : new int[] {-1, 4, 40, MIN, MAX}) {
            refusesAndKeeps("fix(" + place + ")", x, INDEX, () -> x.fix(place));
        }
        is("the last place", 0, () -> x.fix(3));
        x.back();
        x.swap(3, 4);
        x.set(3);
        is("the first place", 0, () -> x.fix(0));
        x.back();
        refuses("fix(0) of a returned line", INDEX, () -> x.fix(0));
    }

    private static void fixRefused() {
        SortCases x = quietCase();
        x.swap(0, 1);
        work(x, "set:ab");
        is("an error that can be corrected", 1, () -> x.fix(0));
        refusesAndKeeps("a place without an error", x, STATE, () -> x.fix(0));
        work(x, "set:bbbbb");
        refusesAndKeeps("no type in the letter's box", x, STATE, () -> x.fix(1));
        SortCases y = caseWithFullBoxAndStray();
        y.change(2, 0);
        y.set(1);
        refusesAndKeeps("a full box", y, STATE, () -> y.fix(0));
    }

    private static void fixReturns() {
        SortCases x = quietCase();
        x.swap(0, 1);
        work(x, "set:abc");
        is("one is left", 1, () -> x.fix(1));
        is("none is left", 0, () -> x.fix(0));
    }

    private static void backRefused() {
        SortCases x = caseWithFullBoxAndStray();
        x.set(1);
        x.change(2, 0);
        refusesAndKeeps("21 in a", x, STATE, x::back);
        lineIs("the line stays", x, "a!");
        is("the one that filled the box is counted, the refused one is not", 1, () -> x.count(13));
        x.set(0);
        is("20 in a", 14, x::back);
        is("20", 20, () -> x.box(0, 0));
    }

    private static void backReturns() {
        SortCases x = quietCase();
        is("an empty line of a case in order", 0, x::back);
        x.swap(0, 1);
        is("an empty line", 2, x::back);
        work(x, "set:ab");
        is("none lies wrong ahead", 0, () -> x.count(4));
        is("two do then", 2, x::back);
        work(x, "set:ab");
        x.change(2, 0);
        is("none does then", 0, x::back);
    }

    private static void swapBoxes() {
        SortCases x = new SortCases();
        is("swap(0, 11)", 2, () -> x.swap(0, 11));
        is("swap(11, 0)", 0, () -> x.swap(11, 0));
        is("swap(11, 11)", 0, () -> x.swap(11, 11));
        is("swap(0, 0)", 0, () -> x.swap(0, 0));
        for (int box : OUTSIDE_THE_BOXES) {
            refusesAndKeeps("swap(" + box + ", 11)", x, INDEX, () -> x.swap(box, 11));
            refusesAndKeeps("swap(0, " + box + ")", x, INDEX, () -> x.swap(0, box));
            refusesAndKeeps("swap(" + box + ", " + box + ")", x, INDEX, () -> x.swap(box, box));
        }
    }

    private static void swapReturns() {
        SortCases x = quietCase();
        is("the same box, none lies wrong", 0, () -> x.swap(3, 3));
        is("two", 2, () -> x.swap(0, 1));
        is("three, as one a is another box's now", 3, () -> x.swap(1, 2));
        work(x, "set:llllll");
        is("one more, out of a box into an empty one", 4, () -> x.swap(11, 5));
        is("an f for an f", 4, () -> x.swap(11, 5));
    }

    private static void changeSettings() {
        SortCases x = new SortCases();
        is("change(0, 20)", 60, () -> x.change(0, 20));
        is("change(2, 0)", 1, () -> x.change(2, 0));
        for (int setting : new int[] {-1, 3, MIN, MAX}) {
            refusesAndKeeps("change(" + setting + ", 1)", x, INDEX, () -> x.change(setting, 1));
            refusesAndKeeps("change(" + setting + ", -1)", x, INDEX, () -> x.change(setting, -1));
        }
    }

    private static void changeValues() {
        SortCases x = new SortCases();
        int[][] out = {{0, 19}, {0, 121}, {1, -1}, {1, 10}, {2, -1}, {2, 2}, {0, MIN}, {0, MAX}, {1, MIN}, {1, MAX}, {2, MIN}, {2, MAX}};
        for (int[] pair : out) {
            refusesAndKeeps("change(" + pair[0] + ", " + pair[1] + ")", x, ARGUMENT, () -> x.change(pair[0], pair[1]));
        }
        int[][] in = {{0, 20}, {0, 120}, {1, 0}, {1, 9}, {2, 0}, {2, 1}};
        for (int[] pair : in) {
            x.change(pair[0], pair[1]);
            is("change(" + pair[0] + ", " + pair[1] + ")", pair[1], () -> x.count(14 + pair[0]));
        }
    }

    private static void changeBelowTheLine() {
        SortCases x = quietCase();
        work(x, "set:cccccc");
        is("the width", 29, () -> x.count(1));
        is("a measure of 20", 120, () -> x.change(0, 20));
        is("the line stays", 29, () -> x.count(1));
        is("nothing goes into it", 2, () -> x.whyNot(0));
        x.change(0, 32);
        is("29 and a gap and 2 are the measure", 0, () -> x.whyNot(0));
        x.change(0, 20);
        is("it is returned all the same", 0, x::back);
    }

    private static void changeReturns() {
        SortCases x = new SortCases();
        is("the first one", 60, () -> x.change(0, 20));
        is("the one before", 20, () -> x.change(0, 20));
        is("the same", 20, () -> x.change(0, 120));
        is("another setting's", 1, () -> x.change(1, 9));
        is("0", 1, () -> x.change(2, 0));
        is("is one too", 0, () -> x.change(2, 1));
    }

    private static void changeHand() {
        SortCases x = new SortCases();
        for (int setting = 0; setting < 3; setting++) {
            x.set(3);
            is("in d", 3, () -> x.count(7));
            x.change(setting, x.count(14 + setting));
            is("in none, also if the value is the same", NONE, () -> x.count(7));
        }
    }

    private interface Undoable {
        Object answer(SortCases x);
    }

    /** Ahead of the call there are errors, a hand, a stop, a snapshot of another state, and two saved states. */
    private static void undone(Undoable call) {
        SortCases x = new SortCases();
        x.idle(3);
        x.keep();
        work(x, "swap:ab;swap:cd;set:aab;fix9");
        long digest = x.digest();
        call.answer(x);
        is("a state is saved", 3, () -> x.count(17));
        is("undo()", 2, x::undo);
        CHECKS.same("digest()", digest, x.digest());
    }

    // ---- 8 to 13

    private static void appendCodes() {
        SortCases x = new SortCases();
        is("append(33)", 1, () -> x.append(33));
        is("append(126)", 2, () -> x.append(126));
        for (int code : new int[] {32, 127, 0, -1, 97 + 256, 97 + 65536, MIN, MAX}) {
            refusesAndKeeps("append(" + code + ")", x, ARGUMENT, () -> x.append(code));
        }
    }

    private static void appendToFull() {
        SortCases x = new SortCases();
        spell(x, "b".repeat(59));
        is("the buffer has 59", 60, () -> x.append('b'));
        refusesAndKeeps("the buffer has 60", x, STATE, () -> x.append('b'));
        refusesAndKeeps("no code for a full buffer", x, ARGUMENT, () -> x.append(32));
        x.clearBuffer();
        is("the buffer is empty", 1, () -> x.append('b'));
    }

    private static void appendReturns() {
        SortCases x = new SortCases();
        for (int length = 1; length <= 60; length++) {
            is("append", length, () -> x.append('~'));
        }
        is("nothing is saved", 0, () -> x.count(17));
    }

    private static void clearReturns() {
        SortCases x = new SortCases();
        is("an empty one", 0, x::clearBuffer);
        spell(x, "!");
        is("one character", 1, x::clearBuffer);
        spell(x, "~".repeat(60));
        is("a full one", 60, x::clearBuffer);
        is("it is empty then", 0, x::clearBuffer);
        is("nothing is saved", 0, () -> x.count(17));
    }

    private static void firstErrorIs(String text, int due) {
        SortCases x = new SortCases();
        spell(x, text);
        is("firstError() of " + text, due, x::firstError);
        is("it leaves the buffer " + text, text.length(), x::clearBuffer);
    }

    private static void firstErrorIndex() {
        firstErrorIs("x", 0);
        firstErrorIs("xback", 0);
        firstErrorIs("bx", 1);
        firstErrorIs("baxx", 2);
        firstErrorIs("sx", 1);
        firstErrorIs("sets", 3);
        firstErrorIs("swaps", 4);
        firstErrorIs("ix", 1);
        firstErrorIs("fi0", 2);
        firstErrorIs("idl1", 3);
        firstErrorIs("back;x", 5);
        firstErrorIs("back;fix41;x", 9);
        firstErrorIs("set:am;set:m", 5);
        firstErrorIs("~".repeat(60), 0);
        firstErrorIs("set:" + "l".repeat(55) + "~", 59);
    }

    private static void firstErrorOfNone() {
        firstErrorIs("", 0);
        for (String whole : new String[] {"set:al", "fix40", "back", "idle99", "swap:al"}) {
            for (int length = 1; length <= whole.length(); length++) {
                firstErrorIs(whole.substring(0, length), length);
                firstErrorIs("back;" + whole.substring(0, length), 5 + length);
            }
            firstErrorIs(whole + ";", whole.length() + 1);
        }
        firstErrorIs("set:" + "l".repeat(56), 60);
        firstErrorIs("back;".repeat(12), 60);
    }

    private static void workUpToAPart() {
        SortCases x = quietCase();
        is("the first part stops it", 0, () -> work(x, "fix0;idle9;set:a"));
        is("no beats", 0, () -> x.count(11));
        is("no letter", 0, () -> x.count(0));
        is("one in the middle", 2, () -> work(x, "idle1;set:a;fix0;idle9"));
        is("beats ahead of it", 1, () -> x.count(11));
        is("the last part", 3, () -> work(x, "idle1;set:b;idle1;fix1"));
        is("beats ahead of it", 3, () -> x.count(11));
        lineIs("letters ahead of it", x, "ab");
    }

    private static void workSetsAhead() {
        SortCases x = quietCase();
        is("six go, and not the seventh, nor the b behind it", 0, () -> work(x, "set:aaaaaaab"));
        lineIs("six", x, "aaaaaa");
        is("letters", 6, () -> x.count(9));
        is("the first one cannot", 0, () -> work(x, "set:ab"));
        lineIs("none", x, "aaaaaa");
        x.change(0, 20);
        is("above the measure", 0, () -> work(x, "set:dd"));
        lineIs("one", x, "aaaaaad");
        is("the hand is where a letter was set last", 3, () -> x.count(7));
    }

    private static void workClears() {
        SortCases x = new SortCases();
        work(x, "back;idle1");
        is("all is done", 0, x::clearBuffer);
        work(x, "idle1;fix0;idle1");
        is("some is done", 0, x::clearBuffer);
        work(x, "fix0");
        is("nothing is done", 0, x::clearBuffer);
        work(x, "set:" + "a".repeat(56));
        is("a full buffer", 0, x::clearBuffer);
        x.undo();
        is("undo() brings it not back", 0, x::clearBuffer);
    }

    private static void workUndone() {
        SortCases x = new SortCases();
        long digest = x.digest();
        work(x, "swap:ab;set:aab;fix0;idle9;back;set:c;idle9");
        is("one state of seven parts", 1, () -> x.count(17));
        x.undo();
        CHECKS.same("all is undone", digest, x.digest());
        is("nothing is done", 0, () -> work(x, "fix40"));
        is("one state", 1, () -> x.count(17));
        x.undo();
        CHECKS.same("the stop is undone", digest, x.digest());
        spell(x, "fix");
        refuses("work()", ARGUMENT, x::work);
        is("none for works that throw", 0, () -> x.count(17));
    }

    private static void workStop() {
        SortCases x = new SortCases();
        work(x, "back;fix0");
        is("part", 1, () -> x.stopped(0));
        is("reason", 7, () -> x.stopped(1));
        work(x, "set:a;idle1;fix0");
        is("another part", 2, () -> x.stopped(0));
        is("another reason", 3, () -> x.stopped(1));
        x.idle(1);
        is("other calls leave the stop", 2, () -> x.stopped(0));
        spell(x, "fix");
        refuses("work() of no works", ARGUMENT, x::work);
        is("so does one that throws", 3, () -> x.stopped(1));
        x.clearBuffer();
        work(x, "idle1");
        is("all are done", NONE, () -> x.stopped(0));
        is("all are done", NONE, () -> x.stopped(1));
    }

    private static void workReturns() {
        SortCases x = quietCase();
        is("none", 0, () -> work(x, "fix0"));
        is("one of one", 1, () -> work(x, "back"));
        is("twelve of twelve", 12, () -> work(x, "back;".repeat(11) + "back"));
        is("a part of which six letters are set is not whole", 1, () -> work(x, "idle1;set:aaaaaaa;idle1"));
        is("one whose last letter is set is", 2, () -> work(x, "idle1;set:bbbbbb;fix40;idle1"));
    }

    private static void workRefused() {
        String[] texts = {"", "b", "bac", "back;", ";", ";back", "set:", "set:ab;", "fix", "idle", "swap:", "swap:a",
            "fix41", "idle0", "idle100", "idle1;back;x", "set:" + "a".repeat(54) + ";b", "~".repeat(60)};
        for (String text : texts) {
            SortCases x = new SortCases();
            spell(x, text);
            refusesAndKeeps("work() of " + text, x, ARGUMENT, x::work);
            is("nothing of it is done", 0, () -> x.count(11));
            is("the buffer stays", text.length(), x::clearBuffer);
        }
    }

    private static void stoppedPart() {
        SortCases x = new SortCases();
        work(x, "fix0;back");
        is("the first", 0, () -> x.stopped(0));
        work(x, "back;fix0;fix1");
        is("the second", 1, () -> x.stopped(0));
        work(x, "back;".repeat(11) + "fix0");
        is("the twelfth and last", 11, () -> x.stopped(0));
    }

    private static void stoppedReason() {
        SortCases x = quietCase();
        reasonIs(x, "set:aaaaaaa", 1);
        x.change(0, 20);
        reasonIs(x, "set:b", 2);
        reasonIs(x, "fix5", 3);
        reasonIs(x, "fix6", 7);
        reasonIs(x, "fix40", 7);
        SortCases y = quietCase();
        reasonIs(y, "swap:ab;set:aaaaaa;fix0", 4);
        SortCases z = caseWithFullBoxAndStray();
        z.change(2, 0);
        reasonIs(z, "set:b;fix0", 5);
        reasonIs(z, "back", 6);
    }

    private static void reasonIs(SortCases x, String text, int due) {
        work(x, text);
        is("the reason that stops " + text, due, () -> x.stopped(1));
    }

    private static void stoppedNone() {
        SortCases x = new SortCases();
        for (int what = 0; what <= 1; what++) {
            int asked = what;
            is("a new case", NONE, () -> x.stopped(asked));
            work(x, "fix0");
            x.undo();
            is("an undone stop", NONE, () -> x.stopped(asked));
            work(x, "fix0");
            work(x, "back");
            is("behind works that are done", NONE, () -> x.stopped(asked));
        }
    }

    private static void stoppedWhat() {
        SortCases x = new SortCases();
        for (int what : new int[] {-1, 2, MIN, MAX}) {
            refusesAndKeeps("stopped(" + what + ")", x, ARGUMENT, () -> x.stopped(what));
        }
    }

    private static void toldSigns() {
        SortCases x = quietCase();
        x.set(11);
        is("the first place", 'l', () -> x.told(0));
        is("no error behind it", NONE, () -> x.told(1));
        x.swap(0, 1);
        x.set(0);
        x.set(0);
        is("a type, not the letter", 'b', () -> x.told(1));
        is("an error", '!', () -> x.told(2));
        is("the next place", 'a', () -> x.told(3));
        x.set(1);
        is("an error at the end", '!', () -> x.told(5));
        is("the end", NONE, () -> x.told(6));
        lineIs("all", x, "lb!aa!");
    }

    private static void toldBeyond() {
        SortCases x = quietCase();
        is("an empty line", NONE, () -> x.told(0));
        is("an empty line", NONE, () -> x.told(MAX));
        longestLine(x);
        is("the last one of 36", 'e', () -> x.told(35));
        is("behind it", NONE, () -> x.told(36));
        is("far behind it", NONE, () -> x.told(MAX));
        x.back();
        is("a returned line", NONE, () -> x.told(0));
    }

    private static void toldBelow() {
        SortCases x = quietCase();
        refusesAndKeeps("told(-1) of an empty line", x, ARGUMENT, () -> x.told(-1));
        x.set(0);
        refusesAndKeeps("told(-1)", x, ARGUMENT, () -> x.told(-1));
        refusesAndKeeps("told(min)", x, ARGUMENT, () -> x.told(MIN));
    }

    /** 24 types that are 2 wide and 12 that are 3 wide: with 35 gaps one less than the widest measure. */
    private static void longestLine(SortCases x) {
        work(x, "set:aaaaaaddddddggggggjjjjjj");
        work(x, "set:bbbbbbeeeeee");
    }

    // ---- 14 to 16

    private static void undoLatest() {
        SortCases x = new SortCases();
        x.set(0);
        x.set(1);
        x.undo();
        lineIs("the latest one", x, "a");
        x.undo();
        lineIs("it was dropped", x, "");
        x.set(2);
        x.undo();
        lineIs("what was undone is not kept", x, "");
        refuses("undo()", STATE, x::undo);
    }

    private static void undoReturns() {
        SortCases x = new SortCases();
        x.set(0);
        is("none", 0, x::undo);
        for (int i = 0; i < 7; i++) {
            x.set(i);
        }
        is("five of six", 5, x::undo);
        is("four", 4, x::undo);
        x.set(11);
        is("four again", 4, x::undo);
    }

    private static void undoOfNone() {
        SortCases x = new SortCases();
        refusesAndKeeps("undo() of a new case", x, STATE, x::undo);
        x.keep();
        x.append('b');
        refusesAndKeeps("keep() and append() save none", x, STATE, x::undo);
        x.set(0);
        x.undo();
        refusesAndKeeps("undo() behind the last one", x, STATE, x::undo);
    }

    private static void keepInPlace() {
        SortCases x = new SortCases();
        x.keep();
        x.set(0);
        x.keep();
        x.set(1);
        x.restore();
        lineIs("the later one", x, "a");
        x.restore();
        lineIs("the one before is gone", x, "a");
    }

    private static void keepReturns() {
        SortCases x = quietCase();
        is("an empty line", 0, x::keep);
        longestLine(x);
        is("the longest one", 36, x::keep);
        x.back();
        is("a returned one", 0, x::keep);
        is("nothing is saved", 5, () -> x.count(17));
    }

    private static void restoreStays() {
        SortCases x = new SortCases();
        work(x, "set:ab;fix9");
        x.keep();
        work(x, "back;idle9");
        for (int i = 1; i <= 3; i++) {
            is("restore() " + i, 2, x::restore);
            lineIs("restore() " + i, x, "ab");
            is("letters", 2, () -> x.count(9));
            is("lines", 0, () -> x.count(13));
            is("the hand", 1, () -> x.count(7));
            is("the stop", 7, () -> x.stopped(1));
            x.back();
            work(x, "idle1");
        }
        for (int i = 0; i < 6; i++) {
            x.undo();
        }
        is("undo() leaves it", 2, x::restore);
    }

    private static void restoreUndone() {
        SortCases x = new SortCases();
        x.set(0);
        x.keep();
        x.set(1);
        x.restore();
        is("it saved a state", 3, () -> x.count(17));
        is("undo()", 2, x::undo);
        lineIs("as it was ahead of restore()", x, "ab");
        x.undo();
        x.restore();
        is("of the same state too", 2, () -> x.count(17));
    }

    private static void restoreReturns() {
        SortCases x = quietCase();
        x.keep();
        longestLine(x);
        is("an empty line", 0, x::restore);
        x.undo();
        x.keep();
        x.back();
        is("the longest one", 36, x::restore);
    }

    private static void restoreOfNone() {
        SortCases x = new SortCases();
        refusesAndKeeps("restore() of a new case", x, STATE, x::restore);
        x.set(0);
        refusesAndKeeps("restore() of what is saved alone", x, STATE, x::restore);
        x.keep();
        x.undo();
        is("undo() does not drop it", 1, x::restore);
    }

    // ---- 17 to 20

    private static void boxOutside() {
        SortCases x = new SortCases();
        is("box(0, 0)", 6, () -> x.box(0, 0));
        is("box(11, 6)", 0, () -> x.box(11, 6));
        for (int box : OUTSIDE_THE_BOXES) {
            refusesAndKeeps("box(" + box + ", 0)", x, INDEX, () -> x.box(box, 0));
            refusesAndKeeps("box(" + box + ", 7)", x, INDEX, () -> x.box(box, 7));
        }
        for (int what : new int[] {-1, 7, MIN, MAX}) {
            refusesAndKeeps("box(0, " + what + ")", x, ARGUMENT, () -> x.box(0, what));
        }
    }

    private static void boxTypes() {
        SortCases x = quietCase();
        work(x, "set:aaaaaa");
        is("an empty box", 0, () -> x.box(0, 0));
        is("none lies wrong in it", 0, () -> x.box(0, 1));
        SortCases y = caseWithFullWrongBox();
        is("a full box", 20, () -> y.box(0, 0));
        is("all lie wrong in it", 20, () -> y.box(0, 1));
        SortCases z = caseWithFullBox();
        is("those under the others lie wrong in it", 14, () -> z.box(0, 1));
    }

    private static void boxUpmost() {
        SortCases x = quietCase();
        is("of its own sort", 11, () -> x.box(11, 2));
        x.swap(0, 11);
        is("of another sort", 0, () -> x.box(11, 2));
        work(x, "set:llllll");
        is("an empty box", NONE, () -> x.box(11, 2));
    }

    private static void boxHand() {
        SortCases x = new SortCases();
        is("in none", 0, () -> x.box(0, 4));
        x.set(0);
        is("in the first", 1, () -> x.box(0, 4));
        is("in none else", 0, () -> x.box(1, 4));
        x.set(11);
        is("in the last", 1, () -> x.box(11, 4));
        is("no longer in the first", 0, () -> x.box(0, 4));
        x.idle(1);
        is("no longer in the last", 0, () -> x.box(11, 4));
    }

    private static void boxOfTheCase() {
        SortCases x = new SortCases();
        is("at the first", 1, () -> x.box(0, 5));
        is("at none else", 0, () -> x.box(11, 5));
        x.idle(11);
        is("at the last", 1, () -> x.box(11, 5));
        is("no longer at the first", 0, () -> x.box(0, 5));
        x.idle(1);
        is("at the first again", 1, () -> x.box(0, 5));
    }

    private static void boxStrays() {
        SortCases x = new SortCases();
        is("none", 0, () -> x.box(0, 6));
        SortCases y = caseWithFullWrongBox();
        is("all six", 6, () -> y.box(0, 6));
        y.set(1);
        is("one in the line lies in no box", 5, () -> y.box(0, 6));
        y.set(0);
        is("five of six b's lie in a", 5, () -> y.box(1, 6));
    }

    private static void typeDeep() {
        SortCases x = quietCase();
        is("the upmost one", 3, () -> x.type(3, 0));
        is("the lowest one of six", 3, () -> x.type(3, 5));
        is("below it", NONE, () -> x.type(3, 6));
        is("far below it", NONE, () -> x.type(3, MAX));
        work(x, "set:dddddd");
        is("an empty box", NONE, () -> x.type(3, 0));
        SortCases y = caseWithFullBox();
        is("the lowest one of 20", 3, () -> y.type(0, 19));
        is("below it", NONE, () -> y.type(0, 20));
        piles("a full box", y, 0, "aaaaaabcdefghijklbcd");
    }

    private static void typeOutside() {
        SortCases x = new SortCases();
        is("type(11, 0)", 11, () -> x.type(11, 0));
        for (int box : OUTSIDE_THE_BOXES) {
            refusesAndKeeps("type(" + box + ", 0)", x, INDEX, () -> x.type(box, 0));
            refusesAndKeeps("type(" + box + ", -1)", x, INDEX, () -> x.type(box, -1));
        }
        refusesAndKeeps("type(0, -1)", x, ARGUMENT, () -> x.type(0, -1));
        refusesAndKeeps("type(0, min)", x, ARGUMENT, () -> x.type(0, MIN));
    }

    private static void lineOutside() {
        SortCases x = quietCase();
        refusesAndKeeps("line(0, 0) of an empty line", x, INDEX, () -> x.line(0, 0));
        longestLine(x);
        is("the first place", 0, () -> x.line(0, 0));
        is("the last place", 4, () -> x.line(35, 0));
        for (int place : new int[] {-1, 36, 40, 72, MIN, MAX}) {
            refusesAndKeeps("line(" + place + ", 0)", x, INDEX, () -> x.line(place, 0));
            refusesAndKeeps("line(" + place + ", 4)", x, INDEX, () -> x.line(place, 4));
        }
        for (int what : new int[] {-1, 4, MIN, MAX}) {
            refusesAndKeeps("line(35, " + what + ")", x, ARGUMENT, () -> x.line(35, what));
        }
    }

    private static void lineError() {
        SortCases x = quietCase();
        x.swap(0, 1);
        work(x, "set:aa");
        is("an error", 1, () -> x.line(0, 2));
        is("none", 0, () -> x.line(1, 2));
        x.fix(0);
        is("none any more", 0, () -> x.line(0, 2));
    }

    private static void lineWhyNot() {
        SortCases x = quietCase();
        x.swap(0, 1);
        work(x, "set:aaaaa");
        is("it can", 0, () -> x.line(0, 3));
        is("no error", 3, () -> x.line(4, 3));
        x.set(0);
        is("no right type", 4, () -> x.line(0, 3));
        is("no error, and no right type", 3, () -> x.line(4, 3));
        SortCases y = caseWithFullBoxAndStray();
        y.set(1);
        y.change(2, 0);
        is("a full box", 5, () -> y.line(0, 3));
    }

    private static void countOutside() {
        SortCases x = new SortCases();
        is("count(0)", 0, () -> x.count(0));
        is("count(17)", 0, () -> x.count(17));
        for (int what : new int[] {-1, 18, MIN, MAX}) {
            refusesAndKeeps("count(" + what + ")", x, ARGUMENT, () -> x.count(what));
        }
    }

    private static void countOfTheLine() {
        SortCases x = quietCase();
        is("no types", 0, () -> x.count(0));
        is("no width", 0, () -> x.count(1));
        is("no errors", 0, () -> x.count(2));
        longestLine(x);
        is("types", 36, () -> x.count(0));
        is("width", 24 * 2 + 12 * 3 + 35, () -> x.count(1));
        is("errors", 0, () -> x.count(2));
        is("no other type goes into it", 2, () -> x.whyNot(7));
        SortCases y = caseWithFullWrongBox();
        work(y, "set:aaaaaaaaaaaaaaaaaaaa");
        is("20 types", 20, () -> y.count(0));
        is("20 errors", 20, () -> y.count(2));
    }

    private static void countInBoxes() {
        SortCases x = quietCase();
        is("all", 72, () -> x.count(3));
        longestLine(x);
        is("half of them", 36, () -> x.count(3));
        x.back();
        is("all again", 72, () -> x.count(3));
    }

    private static void countWrong() {
        wrongOf("a case in order", new SortCases(), 0, 1);
        SortCases x = quietCase();
        work(x, "set:llllll;swap:la");
        wrongOf("one alone", x, 1, 0);
        x.set(11);
        wrongOf("it is in the line", x, 0, 1);
        wrongOf("14 under right ones", caseWithFullBox(), 14, 0);
        wrongOf("26", caseWithFullWrongBox(), 26, 0);
    }

    private static void wrongOf(String what, SortCases x, int due, int inOrder) {
        is(what + ", through the boxes", due, () -> x.count(4));
        is(what + ", the second way", due, () -> x.count(5));
        is(what + ", in order", inOrder, () -> x.count(6));
    }

    private static void countHandAndCase() {
        SortCases x = quietCase();
        is("in none", NONE, () -> x.count(7));
        is("at the first", 0, () -> x.count(8));
        x.set(11);
        is("in the last", 11, () -> x.count(7));
        x.idle(11);
        is("in none", NONE, () -> x.count(7));
        is("at the last", 11, () -> x.count(8));
        x.set(0);
        is("in the first", 0, () -> x.count(7));
        x.idle(1);
        is("at the first", 0, () -> x.count(8));
    }

    private static void soFar(String what, SortCases x, int letters, int moves, int beats, int corrections, int lines) {
        int[] due = {letters, moves, beats, corrections, lines};
        for (int i = 0; i < due.length; i++) {
            int asked = 9 + i;
            is(what + ": count(" + asked + ")", due[i], () -> x.count(asked));
        }
    }

    private static void countSoFar() {
        SortCases x = new SortCases();
        soFar("new", x, 0, 0, 0, 0, 0);
        x.swap(0, 1);
        x.set(5);
        soFar("a letter, and a beat in which a type moves", x, 1, 1, 1, 0, 0);
        x.swap(0, 2);
        x.idle(2);
        soFar("two beats, and a move", x, 1, 2, 3, 0, 0);
        x.change(1, 0);
        x.swap(0, 1);
        x.set(0);
        x.fix(1);
        soFar("a correction", x, 2, 2, 3, 1, 0);
        x.back();
        soFar("a line", x, 2, 2, 3, 1, 1);
        x.back();
        soFar("an empty line", x, 2, 2, 3, 1, 2);
        refuses("set(12)", INDEX, () -> x.set(12));
        refuses("idle(0)", ARGUMENT, () -> x.idle(0));
        refuses("fix(0)", INDEX, () -> x.fix(0));
        soFar("refused calls", x, 2, 2, 3, 1, 2);
    }

    private static void countSoFarInTexts() {
        SortCases x = new SortCases();
        work(x, "swap:ab;set:f;swap:ac;idle2;set:cccc;fix0");
        soFar("letters with a beat each", x, 5, 2, 7, 0, 0);
        x.change(1, 0);
        work(x, "back;swap:gh;set:g;fix0;back;fix0");
        soFar("a correction and two lines", x, 6, 2, 7, 1, 2);
        work(x, "set:jjjjjjj;idle9");
        soFar("six letters of seven", x, 12, 2, 7, 1, 2);
    }

    private static void countSettings() {
        SortCases x = new SortCases();
        x.change(0, 120);
        x.change(1, 9);
        x.change(2, 0);
        is("setting 0", 120, () -> x.count(14));
        is("setting 1", 9, () -> x.count(15));
        is("setting 2", 0, () -> x.count(16));
        is("saved states", 3, () -> x.count(17));
        for (int i = 0; i < 4; i++) {
            x.swap(0, 0);
        }
        is("six at most", 6, () -> x.count(17));
    }

    private static void looksChangeNothing() {
        SortCases x = caseWithFullBoxAndStray();
        x.set(1);
        long digest = x.digest();
        for (int what = 0; what <= 17; what++) {
            x.count(what);
        }
        for (int box = 0; box < 12; box++) {
            for (int what = 0; what <= 6; what++) {
                x.box(box, what);
            }
            x.type(box, 0);
            x.type(box, 20);
        }
        for (int what = 0; what <= 3; what++) {
            x.line(0, what);
        }
        x.told(0);
        x.stopped(0);
        x.firstError();
        CHECKS.same("digest()", digest, x.digest());
    }

    // ---- 21 to 26

    private static void whyNotOutside() {
        SortCases x = new SortCases();
        is("whyNot(0)", 0, () -> x.whyNot(0));
        is("whyNot(11)", 0, () -> x.whyNot(11));
        for (int letter : OUTSIDE_THE_BOXES) {
            refusesAndKeeps("whyNot(" + letter + ")", x, INDEX, () -> x.whyNot(letter));
        }
    }

    private static void whyNotReasons() {
        SortCases x = quietCase();
        work(x, "set:aaaaaa");
        is("an empty box", 1, () -> x.whyNot(0));
        x.change(0, 20);
        is("at the measure", 0, () -> x.whyNot(3));
        is("one above it", 2, () -> x.whyNot(1));
        is("two above it", 2, () -> x.whyNot(2));
        is("an empty box goes ahead", 1, () -> x.whyNot(0));
    }

    private static void ifSetOutside() {
        SortCases x = new SortCases();
        is("ifSet(0, 1)", 0, () -> x.ifSet(0, 1));
        is("ifSet(11, 20)", 0, () -> x.ifSet(11, 20));
        for (int letter : OUTSIDE_THE_BOXES) {
            refusesAndKeeps("ifSet(" + letter + ", 1)", x, INDEX, () -> x.ifSet(letter, 1));
            refusesAndKeeps("ifSet(" + letter + ", 21)", x, INDEX, () -> x.ifSet(letter, 21));
        }
        for (int times : new int[] {0, 21, -1, MIN, MAX}) {
            refusesAndKeeps("ifSet(0, " + times + ")", x, ARGUMENT, () -> x.ifSet(0, times));
        }
    }

    private static void ifSetRunsOut() {
        SortCases x = caseWithFullWrongBox();
        is("one of 20", 1, () -> x.ifSet(0, 1));
        is("19 of 20", 19, () -> x.ifSet(0, 19));
        is("all 20", 20, () -> x.ifSet(0, 20));
        x.set(0);
        is("19 are there", 19, () -> x.ifSet(0, 20));
        SortCases y = quietCase();
        work(y, "set:aaaaaa");
        is("an empty box", 0, () -> y.ifSet(0, 20));
    }

    private static void ifSetToTheMeasure() {
        SortCases x = caseWithFullWrongBox();
        x.change(0, 22);
        is("six b's are 23 wide: five go", 5, () -> x.ifSet(0, 20));
        x.change(0, 23);
        is("six b's go", 6, () -> x.ifSet(0, 20));
        x.change(0, 27);
        is("a c makes 28: six go", 6, () -> x.ifSet(0, 20));
        x.change(0, 28);
        is("seven go", 7, () -> x.ifSet(0, 20));
        work(x, "set:aaaaaaa");
        is("the line is full", 0, () -> x.ifSet(0, 20));
        x.change(0, 20);
        is("the line is too wide already", 0, () -> x.ifSet(0, 20));
    }

    private static void ifSetMore() {
        SortCases x = caseWithFullWrongBox();
        x.set(0);
        is("those of the line already are none", 0, () -> x.ifSet(3, 3));
        is("three more", 3, () -> x.ifSet(0, 3));
        SortCases y = new SortCases();
        y.swap(0, 1);
        y.change(1, 9);
        is("the beats behind letters take nothing out of the letter's box", 1, () -> y.ifSet(0, 6));
    }

    private static void sortedInNone() {
        SortCases x = new SortCases();
        is("a new case", 0, x::sortedIn);
        is("wrongThen()", 0, x::wrongThen);
        SortCases y = caseWithFullBox();
        is("14 lie wrong, but under right ones", 0, y::sortedIn);
        is("wrongThen()", 14, y::wrongThen);
        y.idle(1);
        y.swap(0, 1);
        y.set(0);
        y.idle(1);
        is("an a went to 19", 20, () -> y.box(0, 0));
        is("none moves any more", 0, y::sortedIn);
    }

    private static void sortedInTwelve() {
        SortCases x = quietCase();
        work(x, "set:kkkkkk;idle11;swap:ka");
        is("the case is just behind k", 11, () -> x.count(8));
        is("in the twelfth beat", 12, x::sortedIn);
        is("wrongThen()", 0, x::wrongThen);
        is("not ahead of it", 0, () -> x.idle(11));
        is("in it", 1, () -> x.idle(1));
        SortCases y = caseWithFullBox();
        work(y, "idle1;swap:ac;swap:cl;set:c");
        is("an a on l goes when a c left a, eleven beats without one behind", 24, y::sortedIn);
        is("wrongThen()", 14, y::wrongThen);
        is("so it does", 2, () -> y.idle(24));
        is("then none does", 0, y::sortedIn);
    }

    private static void sortedInWithoutHand() {
        SortCases x = quietCase();
        x.swap(0, 1);
        x.set(0);
        is("the a on b goes to a, where the hand is", 2, x::sortedIn);
        is("wrongThen()", 0, x::wrongThen);
        is("the hand stays", 0, () -> x.count(7));
        SortCases y = quietCase();
        y.swap(0, 1);
        y.set(1);
        is("the b on a goes to b, where the hand is", 1, y::sortedIn);
        is("wrongThen()", 0, y::wrongThen);
    }

    private static void sortedInLong() {
        SortCases x = caseWithFullWrongBox();
        is("eleven steps, and 20 moves", 31, x::sortedIn);
        is("six a's lie under b's then", 6, x::wrongThen);
        is("so they do", 20, () -> x.idle(31));
        is("six", 6, () -> x.count(4));
    }

    private static void wrongThenLeft() {
        SortCases x = quietCase();
        is("none", 0, x::wrongThen);
        x.idle(1);
        x.swap(0, 1);
        is("the a covers the b of a", 1, x::wrongThen);
        is("now two lie wrong still", 2, () -> x.count(4));
        x.idle(99);
        is("now one does", 1, () -> x.count(4));
        is("and stays", 1, x::wrongThen);
    }

    private static void shareOfPlaces() {
        SortCases x = caseWithFullBoxAndStray();
        x.set(0);
        CHECKS.same("none of one", 0.0, x.rightShare());
        x.set(0);
        CHECKS.same("one of two", 0.5, x.rightShare());
        x.set(0);
        CHECKS.same("two of three", 2.0 / 3.0, x.rightShare());
        x.fix(0);
        CHECKS.same("all", 1.0, x.rightShare());
        SortCases y = caseWithFullWrongBox();
        work(y, "set:aaaaaaaaaaaaaaaaaaaad");
        CHECKS.same("one of 21", 1.0 / 21.0, y.rightShare());
    }

    private static void shareOfNone() {
        SortCases x = quietCase();
        CHECKS.same("a new line", 1.0, x.rightShare());
        x.swap(0, 1);
        x.set(0);
        x.back();
        CHECKS.same("a returned line", 1.0, x.rightShare());
    }

    private static void digestOfNew() {
        CHECKS.same("new", hashOf(new SortCases(), ""), new SortCases().digest());
    }

    private static void digestOverflows() {
        SortCases x = new SortCases();
        boolean below = false;
        boolean above = false;
        for (int i = 0; i < 40; i++) {
            long digest = x.digest();
            CHECKS.same("digest " + i, hashOf(x, ""), digest);
            below |= digest < 0;
            above |= digest > 0;
            x.idle(1 + i);
        }
        CHECKS.same("below 0 and above 0", true, below && above);
    }

    private static void digestOfEdges() {
        SortCases x = caseWithFullWrongBox();
        CHECKS.same("a full box", hashOf(x, ""), x.digest());
        work(x, "set:aaaaaaaaaaaaaaaaaaaa;fix0");
        CHECKS.same("a line of errors, an empty box, a hand and a stop", hashOf(x, ""), x.digest());
        SortCases y = quietCase();
        longestLine(y);
        spell(y, "~".repeat(60));
        CHECKS.same("the longest line and a full buffer", hashOf(y, "~".repeat(60)), y.digest());
        y.clearBuffer();
        spell(y, "!");
        CHECKS.same("one character", hashOf(y, "!"), y.digest());
        SortCases z = caseWithFullBoxAndStray();
        z.set(1);
        z.change(2, 0);
        CHECKS.same("reason 5", hashOf(z, ""), z.digest());
        for (int right = 0; right < 6; right++) {
            z.set(0);
            CHECKS.same("a share", hashOf(z, ""), z.digest());
        }
    }

    private static void wouldBeChangesNothing() {
        SortCases x = caseWithFullBoxAndStray();
        x.set(1);
        x.append('b');
        long digest = x.digest();
        for (int letter = 0; letter < 12; letter++) {
            x.whyNot(letter);
            x.ifSet(letter, 20);
        }
        x.sortedIn();
        x.wrongThen();
        x.rightShare();
        CHECKS.same("digest()", digest, x.digest());
        piles("the types", x, 0, "baaaaabcdefghijklbcd");
    }
}
