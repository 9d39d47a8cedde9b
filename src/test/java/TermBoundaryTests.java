/** Each sentence of the document's terms that names a boundary case, with a test of its own. */
public final class TermBoundaryTests extends CaseHelp {
    public static void main(String[] args) {
        theCase();
        setting();
        sorting();
        proofsAndReturns();
        orderAndSettings();
        inputText();
        undoAndExceptions();
        CHECKS.end();
    }

    private static void theCase() {
        CHECKS.sentence("There are 12 sorts, the letters \"a\" to \"l\", numbered from 0.", TermBoundaryTests::twelveSorts);
        CHECKS.sentence("The sort k is 2 wide, and as many more as are left of it by 3 (2, 3 and 4 in turn).",
                TermBoundaryTests::widthsInTurn);
        CHECKS.sentence("a box has room for 20 types", TermBoundaryTests::roomForTwenty);
        CHECKS.sentence("the upmost one is taken first, and one that is put in comes on top", TermBoundaryTests::upmostFirst);
        CHECKS.sentence("At first there are 6 types of each sort, in their boxes.", TermBoundaryTests::sixOfEachSort);
        CHECKS.sentence("A type that lies in the box of another sort lies wrong.", TermBoundaryTests::wrongInBoxesAlone);
    }

    private static void setting() {
        CHECKS.sentence("There is a line, empty at first", TermBoundaryTests::lineIsEmptyAtFirst);
        CHECKS.sentence("the width of a line is that of its types, and one for each gap between two of them",
                TermBoundaryTests::gapsBetweenTwo);
        CHECKS.sentence("to take the upmost type, whatever its sort is", TermBoundaryTests::takesWhateverIsUpmost);
        CHECKS.sentence("The hand is in this box then, until a letter of another box is set", TermBoundaryTests::handUntilAnotherBox);
        CHECKS.sentence("or something else is done by idle(), fix(), back(), swap() or change()", TermBoundaryTests::handUntilAnotherCall);
        CHECKS.sentence("or by such a part of a text", TermBoundaryTests::handUntilAnotherPart);
        CHECKS.sentence("something else is done: what is refused leaves the hand", TermBoundaryTests::handBehindRefused);
        CHECKS.sentence("1: its box is empty", TermBoundaryTests::reason1);
        CHECKS.sentence("2: the width of the line would be above the measure", TermBoundaryTests::reason2);
        CHECKS.sentence("A letter cannot be set for the first of these reasons that applies", TermBoundaryTests::reason1Ahead);
    }

    private static void sorting() {
        CHECKS.sentence("it looks at the box at which it is (0 at first)", TermBoundaryTests::caseIsAt0);
        CHECKS.sentence("unless the hand is in it", TermBoundaryTests::handInTheBoxLookedAt);
        CHECKS.sentence("if the upmost type there lies wrong", TermBoundaryTests::upmostAlone);
        CHECKS.sentence("and its own box has room", TermBoundaryTests::ownBoxHasRoom);
        CHECKS.sentence("and the hand is not in that one either", TermBoundaryTests::handInTheOwnBox);
        CHECKS.sentence("the type goes to its own box, on top, and the case stays at this box", TermBoundaryTests::caseStays);
        CHECKS.sentence("otherwise it goes on to the next box (0 behind 11)", TermBoundaryTests::boxBehind11);
        CHECKS.sentence("Each beat is one of these steps; moves are counted.", TermBoundaryTests::oneStepABeat);
        CHECKS.sentence("Behind each letter that is set setting 1 idle beats pass", TermBoundaryTests::beatsBehindLetters);
        CHECKS.sentence("(the hand is in the box of this letter still)", TermBoundaryTests::handInTheBeatsBehind);
    }

    private static void proofsAndReturns() {
        CHECKS.sentence("An error of a line is a place whose type is another sort than the letter of the text.",
                TermBoundaryTests::errorsNoneToAll);
        CHECKS.sentence("on top of the box of its letter of the text only with setting 2 as 1, otherwise on top of its own box",
                TermBoundaryTests::correctedTypeGoes);
        CHECKS.sentence("the upmost type that is right, out of the order (those above it stay)", TermBoundaryTests::rightOutOfOrder);
        CHECKS.sentence("3: the place has no error", TermBoundaryTests::reason3);
        CHECKS.sentence("4: the box of the letter has no type that is right", TermBoundaryTests::reason4);
        CHECKS.sentence("5: the box to which the type goes is full", TermBoundaryTests::reason5);
        CHECKS.sentence("It cannot be done for the first of these reasons: 3, 4, 5", TermBoundaryTests::reasons3To5InOrder);
        CHECKS.sentence("to put its types back, from the last one on", TermBoundaryTests::lastOneFirst);
        CHECKS.sentence("each on top of the box of its letter of the text (with setting 2 as 1), or of its own box",
                TermBoundaryTests::returnedTypeGoes);
        CHECKS.sentence("it cannot be done, if some box would have more than 20 types (reason 6)", TermBoundaryTests::reason6);
        CHECKS.sentence("reason 6, with setting 2 as 0", TermBoundaryTests::reason6OfOwnBoxes);
        CHECKS.sentence("The line and its text are empty then. Lines returned are counted.", TermBoundaryTests::emptyBehindReturn);
    }

    private static void orderAndSettings() {
        CHECKS.sentence("The case is in order, if no type lies wrong.", TermBoundaryTests::inOrder);
        CHECKS.sentence("both agree", TermBoundaryTests::bothWaysAgree);
        CHECKS.sentence("0: the measure, 20 to 120, at first 60", () -> settingIs(0, 20, 120, 60));
        CHECKS.sentence("1: idle beats behind a letter, 0 to 9, at first 1", () -> settingIs(1, 0, 9, 1));
        CHECKS.sentence("2: 0 or 1, at first 1", () -> settingIs(2, 0, 1, 1));
    }

    private static void inputText() {
        CHECKS.sentence("The buffer has at most 60 characters.", TermBoundaryTests::sixtyCharacters);
        CHECKS.sentence("one or more parts with \";\" between them", TermBoundaryTests::oneOrMoreParts);
        CHECKS.sentence("\"set:\", and one or more letters, \"a\" to \"l\"", TermBoundaryTests::oneOrMoreLetters);
        CHECKS.sentence("\"fix\", and a place, 0 to 40", TermBoundaryTests::places0To40);
        CHECKS.sentence("\"back\"", TermBoundaryTests::backAndNothingBehind);
        CHECKS.sentence("\"idle\", and beats, 1 to 99", TermBoundaryTests::beats1To99);
        CHECKS.sentence("\"swap:\" and two letters", TermBoundaryTests::twoLetters);
        CHECKS.sentence("of two boxes, one of which is empty, that of the other one goes over", TermBoundaryTests::swapWithAnEmptyBox);
        CHECKS.sentence("of the same box, or two empty ones, nothing", TermBoundaryTests::swapOfNothing);
        CHECKS.sentence("numbers without a leading zero", TermBoundaryTests::noLeadingZero);
        CHECKS.sentence("a syntax error if no works as a text, of any length, begin with the characters before it and this character",
                TermBoundaryTests::worksOfAnyLength);
    }

    private static void undoAndExceptions() {
        CHECKS.sentence("saves the state from before it (also if it changes nothing)", TermBoundaryTests::savedWithoutAChange);
        CHECKS.sentence("Each method that is marked \"undoable\" and does not throw an exception", TermBoundaryTests::throwingSavesNothing);
        CHECKS.sentence("all, also what is counted so far and the latest stop", TermBoundaryTests::allIsSaved);
        CHECKS.sentence("but the buffer, the saved states and the snapshot", TermBoundaryTests::notSaved);
        CHECKS.sentence("At most 6 states are saved; the oldest one is dropped first.", TermBoundaryTests::atMostSixStates);
        CHECKS.sentence("A call that throws an exception changes nothing.", TermBoundaryTests::throwingChangesNothing);
        CHECKS.sentence("the one that is named first in the throws clause is thrown", TermBoundaryTests::firstNamedIsThrown);
        CHECKS.sentence("NONE = -1: There is nothing to return.", TermBoundaryTests::noneIsMinusOne);
    }

    // ---- The case

    private static void twelveSorts() {
        SortCases x = new SortCases();
        is("the first sort", 0, () -> x.set(0));
        is("the last sort", 11, () -> x.set(11));
        lineIs("their letters", x, "al");
        is("letters in a text", 2, () -> work(x, "set:la;swap:al"));
        for (int none : OUTSIDE_THE_BOXES) {
            refuses("set(" + none + ")", INDEX, () -> x.set(none));
            refuses("whyNot(" + none + ")", INDEX, () -> x.whyNot(none));
            refuses("ifSet(" + none + ", 1)", INDEX, () -> x.ifSet(none, 1));
            refuses("swap(" + none + ", 0)", INDEX, () -> x.swap(none, 0));
            refuses("swap(11, " + none + ")", INDEX, () -> x.swap(11, none));
            refuses("box(" + none + ", 0)", INDEX, () -> x.box(none, 0));
            refuses("type(" + none + ", 0)", INDEX, () -> x.type(none, 0));
        }
    }

    private static void widthsInTurn() {
        int[] due = {2, 3, 4, 2, 3, 4, 2, 3, 4, 2, 3, 4};
        for (int k = 0; k < 12; k++) {
            SortCases x = new SortCases();
            int sort = k;
            is("the width of sort " + k, due[k], () -> x.box(sort, 3));
            x.set(k);
            is("a line of sort " + k, due[k], () -> x.count(1));
        }
    }

    private static void roomForTwenty() {
        SortCases x = caseWithFullBox();
        is("20 types", 20, () -> x.box(0, 0));
        is("the lowest one", 3, () -> x.type(0, 19));
        is("there is no 21st", NONE, () -> x.type(0, 20));
        x.idle(1);
        x.swap(0, 1);
        is("none goes into a full box", 0, () -> x.idle(1));
        is("20 still", 20, () -> x.box(0, 0));
        x.set(0);
        is("one goes into a box with 19", 1, () -> x.idle(12));
        is("20 again", 20, () -> x.box(0, 0));
    }

    private static void upmostFirst() {
        SortCases x = quietCase();
        work(x, "set:llllll;swap:la");
        piles("the only one is upmost and lowest", x, 11, "a");
        work(x, "swap:lb;swap:ac");
        piles("on top of those there", x, 1, "abbbbb");
        is("taken first", 0, () -> x.set(1));
        piles("those below stay", x, 1, "bbbbb");
    }

    private static void sixOfEachSort() {
        for (int k = 0; k < 12; k++) {
            SortCases x = quietCase();
            int letter = k;
            for (int i = 0; i < 6; i++) {
                is("type " + i + " of box " + k, letter, () -> x.set(letter));
            }
            is("nothing is left in box " + k, 0, () -> x.box(letter, 0));
            refuses("a seventh of box " + k, STATE, () -> x.set(letter));
        }
        SortCases x = new SortCases();
        is("in all", 72, () -> x.count(3));
    }

    private static void wrongInBoxesAlone() {
        SortCases x = quietCase();
        x.swap(0, 1);
        is("two lie wrong", 2, () -> x.count(4));
        x.set(0);
        is("a type in the line lies nowhere", 1, () -> x.count(4));
        is("though it is an error", 1, () -> x.count(2));
        work(x, "set:cccccc");
        is("nothing lies wrong in an empty box", 0, () -> x.box(2, 1));
        SortCases full = caseWithFullWrongBox();
        is("all 20 of a full box", 20, () -> full.box(0, 1));
    }

    // ---- Setting

    private static void lineIsEmptyAtFirst() {
        SortCases x = new SortCases();
        is("types", 0, () -> x.count(0));
        is("width", 0, () -> x.count(1));
        is("errors", 0, () -> x.count(2));
        is("told(0)", NONE, () -> x.told(0));
        refuses("line(0, 0)", INDEX, () -> x.line(0, 0));
    }

    private static void gapsBetweenTwo() {
        SortCases x = quietCase();
        is("no type, no gap", 0, () -> x.count(1));
        x.set(2);
        is("one type, no gap", 4, () -> x.count(1));
        x.set(0);
        is("two types, one gap", 4 + 1 + 2, () -> x.count(1));
        x.set(1);
        is("three types, two gaps", 4 + 1 + 2 + 1 + 3, () -> x.count(1));
        x.back();
        is("none again", 0, () -> x.count(1));
    }

    private static void takesWhateverIsUpmost() {
        SortCases x = quietCase();
        work(x, "set:aaaaaa;swap:ab");
        is("the only type of box a is a b", 1, () -> x.set(0));
        is("the place's letter is a all the same", 0, () -> x.line(6, 1));
        is("the place's type", 1, () -> x.line(6, 0));
        is("the box is empty", 0, () -> x.box(0, 0));
    }

    private static void handUntilAnotherBox() {
        SortCases x = quietCase();
        is("in none at first", NONE, () -> x.count(7));
        x.set(0);
        is("in a", 0, () -> x.count(7));
        x.set(0);
        is("in a again", 0, () -> x.count(7));
        x.set(11);
        is("in l", 11, () -> x.count(7));
        is("no longer in a", 0, () -> x.box(0, 4));
        is("box(11, 4)", 1, () -> x.box(11, 4));
        x.swap(0, 1);
        x.set(0);
        is("in the letter's box, not in that of the type", 0, () -> x.count(7));
    }

    private static void handUntilAnotherCall() {
        SortCases x = quietCase();
        x.swap(0, 1);
        String[] names = {"idle(1) that moves nothing", "fix(0)", "swap(5, 5) of nothing", "change(2, 1) to the same", "back()"};
        Checks.Call[] calls = {() -> x.idle(1), () -> x.fix(0), () -> x.swap(5, 5), () -> x.change(2, 1), x::back};
        x.set(0);
        for (int i = 0; i < calls.length; i++) {
            x.set(4);
            is("ahead of " + names[i], 4, () -> x.count(7));
            calls[i].answer();
            is("behind " + names[i], NONE, () -> x.count(7));
        }
    }

    private static void handUntilAnotherPart() {
        SortCases x = quietCase();
        x.swap(0, 1);
        x.set(0);
        for (String part : new String[] {"idle1", "fix0", "swap:ff", "back"}) {
            is("set:e;" + part, 2, () -> work(x, "set:e;" + part));
            is("behind " + part, NONE, () -> x.count(7));
            is("idle1;set:l", 2, () -> work(x, "idle1;set:l"));
            is("a letter behind another part", 11, () -> x.count(7));
        }
    }

    private static void handBehindRefused() {
        SortCases x = quietCase();
        x.set(4);
        Checks.Call[] calls = {() -> x.idle(0), () -> x.idle(100), () -> x.fix(0), () -> x.fix(1), () -> x.swap(0, 12),
            () -> x.change(1, 10), () -> x.change(3, 0), () -> x.set(12)};
        for (int i = 0; i < calls.length; i++) {
            Checks.answerOf(calls[i]);
            is("behind refused call " + i, 4, () -> x.count(7));
        }
        is("a part without an error to correct", 0, () -> work(x, "fix0;idle1"));
        is("hand", 4, () -> x.count(7));
        is("a part without a place", 0, () -> work(x, "fix9;idle1"));
        is("hand", 4, () -> x.count(7));
        SortCases full = caseWithFullBoxAndStray();
        full.change(2, 0);
        full.set(1);
        is("a line that cannot be returned", 0, () -> work(full, "back;idle1"));
        is("hand", 1, () -> full.count(7));
    }

    private static void reason1() {
        SortCases x = quietCase();
        work(x, "set:aaaaa");
        is("one type is enough", 0, () -> x.whyNot(0));
        x.set(0);
        is("none is not", 1, () -> x.whyNot(0));
        refusesAndKeeps("set(0)", x, STATE, () -> x.set(0));
        is("a part of a text", 1, () -> work(x, "idle1;set:a"));
        is("its reason", 1, () -> x.stopped(1));
    }

    private static void reason2() {
        SortCases x = quietCase();
        work(x, "set:aaaaaa");
        x.change(0, 20);
        is("17 and a gap and 2 are the measure", 0, () -> x.whyNot(3));
        is("17 and a gap and 3 are one more", 2, () -> x.whyNot(1));
        refusesAndKeeps("set(1)", x, STATE, () -> x.set(1));
        is("set(3)", 3, () -> x.set(3));
        is("the width is the measure", 20, () -> x.count(1));
        refusesAndKeeps("set(3)", x, STATE, () -> x.set(3));
        is("a part of a text", 0, () -> work(x, "set:g"));
        is("its reason", 2, () -> x.stopped(1));
        x.swap(3, 4);
        x.change(0, 23);
        is("the width of the type counts, not that of the letter: an e lies on box d", 2, () -> x.whyNot(3));
        is("a d lies on box e", 0, () -> x.whyNot(4));
    }

    private static void reason1Ahead() {
        SortCases x = quietCase();
        work(x, "set:llllll");
        x.change(0, 20);
        is("the box is empty, and the line too wide", 1, () -> x.whyNot(11));
        is("the line is too wide alone", 2, () -> x.whyNot(0));
        work(x, "set:l");
        is("in a text", 1, () -> x.stopped(1));
    }

    // ---- Sorting

    private static void caseIsAt0() {
        SortCases x = new SortCases();
        is("at first", 0, () -> x.count(8));
        is("box(0, 5)", 1, () -> x.box(0, 5));
        x.swap(0, 11);
        is("so the first beat moves what lies wrong there", 1, () -> x.idle(1));
        piles("the l", x, 11, "lalllll");
    }

    private static void handInTheBoxLookedAt() {
        SortCases x = caseWithTwoWrong();
        x.change(1, 1);
        x.set(0);
        piles("the hand is in a: the c stays there", x, 0, "caaaa");
        is("no move", 0, () -> x.count(10));
        is("on to b", 1, () -> x.count(8));
        SortCases y = caseWithTwoWrong();
        y.change(1, 1);
        y.set(5);
        piles("the hand is in f: the b went home", y, 0, "caaaa");
        is("a move", 1, () -> y.count(10));
    }

    private static void upmostAlone() {
        SortCases x = caseWithWrongUnderRight();
        piles("a b lies under an a", x, 0, "abaaaaa");
        is("nothing moves", 0, () -> x.idle(24));
        piles("it stays there", x, 0, "abaaaaa");
        SortCases y = quietCase();
        work(y, "set:aaaaaa");
        is("nothing is upmost in an empty box", 0, () -> y.idle(1));
        is("it is passed", 1, () -> y.count(8));
    }

    private static void ownBoxHasRoom() {
        SortCases x = caseWithFullBox();
        x.idle(1);
        x.swap(0, 1);
        is("20 in a: the a on b stays", 0, () -> x.idle(1));
        is("on to c", 2, () -> x.count(8));
        SortCases y = caseWithFullBox();
        y.idle(1);
        y.set(0);
        y.swap(0, 1);
        is("19 in a: the a on b moves", 1, () -> y.idle(1));
        is("the case stays at b", 1, () -> y.count(8));
    }

    private static void handInTheOwnBox() {
        SortCases x = quietCase();
        x.idle(1);
        x.swap(0, 1);
        x.change(1, 1);
        x.set(0);
        piles("the hand is in a: the a on b stays", x, 1, "abbbbb");
        is("on to c", 2, () -> x.count(8));
        x.undo();
        x.set(5);
        piles("the hand is in f: the a on b moves", x, 1, "bbbbb");
        is("the case stays at b", 1, () -> x.count(8));
    }

    private static void caseStays() {
        SortCases x = caseWithTwoWrong();
        x.idle(1);
        piles("on top of its own box", x, 1, "babbbbb");
        is("the case stays at a", 0, () -> x.count(8));
        x.idle(1);
        piles("the next one too", x, 2, "caccccc");
        is("the case stays at a", 0, () -> x.count(8));
        x.idle(1);
        is("nothing lies wrong there any more", 1, () -> x.count(8));
    }

    private static void boxBehind11() {
        SortCases x = new SortCases();
        x.idle(11);
        is("at 11", 11, () -> x.count(8));
        is("box(11, 5)", 1, () -> x.box(11, 5));
        x.idle(1);
        is("0 behind 11", 0, () -> x.count(8));
        is("box(0, 5)", 1, () -> x.box(0, 5));
        x.idle(99);
        is("99 are 8 rounds and 3", 3, () -> x.count(8));
    }

    private static void oneStepABeat() {
        SortCases x = caseWithTwoWrong();
        is("one beat, one move", 1, () -> x.idle(1));
        is("moves", 1, () -> x.count(10));
        is("beats", 1, () -> x.count(11));
        is("two beats, a move and a step", 1, () -> x.idle(2));
        is("moves", 2, () -> x.count(10));
        is("beats", 3, () -> x.count(11));
        is("a step is no move", 0, () -> x.idle(1));
        is("moves", 2, () -> x.count(10));
    }

    private static void beatsBehindLetters() {
        SortCases x = quietCase();
        x.swap(0, 1);
        x.set(5);
        is("setting 1 is 0: none", 0, () -> x.count(11));
        piles("the b stays", x, 0, "baaaaa");
        SortCases y = new SortCases();
        y.set(5);
        is("setting 1 is 1", 1, () -> y.count(11));
        y.change(1, 9);
        y.set(5);
        is("setting 1 is 9", 10, () -> y.count(11));
        work(y, "set:fffffff");
        is("behind each of the four letters of a text that are set", 10 + 4 * 9, () -> y.count(11));
        refuses("set(5)", STATE, () -> y.set(5));
        is("none behind a letter that is not set", 10 + 4 * 9, () -> y.count(11));
    }

    private static void handInTheBeatsBehind() {
        SortCases x = caseWithTwoWrong();
        x.change(1, 9);
        x.set(0);
        piles("no beat takes a type out of the hand's box", x, 0, "caaaa");
        piles("or puts one into it", x, 1, "abbbbb");
        is("nine steps", 9, () -> x.count(8));
        is("the hand is there behind them", 0, () -> x.count(7));
        x.set(5);
        is("the hand left a ahead of the beats: the c goes out and the a of b comes in", 2, () -> x.count(10));
        piles("all of them", x, 0, "aaaaa");
        is("the hand", 5, () -> x.count(7));
    }

    // ---- Proofs, returns

    private static void errorsNoneToAll() {
        SortCases x = quietCase();
        is("none in an empty line", 0, () -> x.count(2));
        x.set(0);
        is("none in a right line", 0, () -> x.count(2));
        SortCases y = caseWithTwoWrong();
        work(y, "set:aa");
        is("all", 2, () -> y.count(2));
        lineIs("all", y, "b!c!");
        work(y, "set:bb");
        lineIs("the type of another place's letter is wrong all the same", y, "b!c!a!b");
        is("all but one", 3, () -> y.count(2));
    }

    private static void correctedTypeGoes() {
        SortCases x = quietCase();
        x.swap(0, 1);
        x.set(0);
        x.fix(0);
        piles("setting 2 is 1: to the letter's box", x, 0, "baaaa");
        piles("setting 2 is 1", x, 1, "abbbbb");
        x.undo();
        x.change(2, 0);
        x.fix(0);
        piles("setting 2 is 0: out of the letter's box", x, 0, "aaaa");
        piles("setting 2 is 0: to its own box", x, 1, "babbbbb");
    }

    private static void rightOutOfOrder() {
        SortCases x = quietCase();
        x.idle(1);
        x.swap(0, 2);
        x.set(0);
        x.swap(0, 1);
        x.idle(1);
        piles("ahead", x, 0, "abaaaa");
        x.fix(0);
        piles("the c comes on top, the upmost a goes", x, 0, "cbaaaa");
        lineIs("the a", x, "a");
        SortCases z = quietCase();
        z.swap(0, 2);
        z.set(0);
        z.swap(0, 1);
        z.fix(0);
        piles("the b above it stays", z, 0, "cbaaa");
        SortCases y = quietCase();
        y.swap(0, 1);
        work(y, "set:aaaaa");
        y.fix(0);
        piles("the lowest and only right one goes", y, 0, "b");
    }

    private static void reason3() {
        SortCases x = quietCase();
        x.set(0);
        is("line(0, 3)", 3, () -> x.line(0, 3));
        refusesAndKeeps("fix(0)", x, STATE, () -> x.fix(0));
        is("a part of a text", 0, () -> work(x, "fix0"));
        is("its reason", 3, () -> x.stopped(1));
        SortCases y = caseWithTwoWrong();
        y.set(0);
        is("an error", 0, () -> y.line(0, 3));
        y.fix(0);
        is("is none when it is corrected", 3, () -> y.line(0, 3));
    }

    private static void reason4() {
        SortCases x = quietCase();
        x.swap(0, 1);
        work(x, "set:aaaaa");
        is("one right type", 0, () -> x.line(0, 3));
        x.set(0);
        is("an empty box", 4, () -> x.line(0, 3));
        refusesAndKeeps("fix(0)", x, STATE, () -> x.fix(0));
        is("a part of a text", 0, () -> work(x, "fix0"));
        is("its reason", 4, () -> x.stopped(1));
        x.swap(0, 2);
        is("a wrong type alone", 4, () -> x.line(0, 3));
        refusesAndKeeps("fix(0)", x, STATE, () -> x.fix(0));
    }

    private static void reason5() {
        SortCases x = caseWithFullBox();
        x.idle(1);
        x.swap(0, 1);
        x.set(0);
        is("19 types in a", 0, () -> x.line(0, 3));
        x.idle(1);
        is("20 types in a", 5, () -> x.line(0, 3));
        refusesAndKeeps("fix(0)", x, STATE, () -> x.fix(0));
        is("a part of a text", 0, () -> work(x, "fix0"));
        is("its reason", 5, () -> x.stopped(1));
        x.change(2, 0);
        is("it goes to b with setting 2 as 0", 0, () -> x.line(0, 3));
        SortCases y = caseWithFullBoxAndStray();
        y.set(1);
        is("an a goes to b with setting 2 as 1", 0, () -> y.line(0, 3));
        y.change(2, 0);
        is("and to a, which is full, with setting 2 as 0", 5, () -> y.line(0, 3));
        refusesAndKeeps("fix(0)", y, STATE, () -> y.fix(0));
        y.set(0);
        is("19 types in a", 0, () -> y.line(0, 3));
    }

    private static void reasons3To5InOrder() {
        SortCases x = caseWithFullWrongBox();
        x.set(0);
        x.idle(1);
        x.set(0);
        lineIs("an error and a right place", x, "b!a");
        x.idle(1);
        x.swap(0, 2);
        is("box a is full", 20, () -> x.box(0, 0));
        is("with wrong types alone", 20, () -> x.box(0, 1));
        is("no error goes ahead of 4 and 5", 3, () -> x.line(1, 3));
        is("no right type goes ahead of 5", 4, () -> x.line(0, 3));
        work(x, "fix1");
        is("in a text", 3, () -> x.stopped(1));
        work(x, "fix0");
        is("in a text", 4, () -> x.stopped(1));
    }

    private static void lastOneFirst() {
        SortCases x = caseWithTwoWrong();
        work(x, "set:aaaaaa");
        lineIs("set", x, "b!c!aaaa");
        x.back();
        piles("the first one comes to lie upmost", x, 0, "bcaaaa");
        x.set(0);
        x.back();
        piles("a line of one", x, 0, "bcaaaa");
    }

    private static void returnedTypeGoes() {
        SortCases x = caseWithTwoWrong();
        work(x, "set:aab");
        is("setting 2 is 1", 4, x::back);
        piles("setting 2 is 1", x, 0, "bcaaaa");
        piles("setting 2 is 1", x, 1, "abbbbb");
        x.undo();
        x.change(2, 0);
        is("setting 2 is 0: the a on c alone lies wrong", 1, x::back);
        piles("setting 2 is 0", x, 0, "aaaaa");
        piles("setting 2 is 0", x, 1, "bbbbbb");
        piles("setting 2 is 0", x, 2, "caccccc");
    }

    private static void reason6() {
        SortCases x = quietCase();
        work(x, "set:aaaaaa");
        for (int i = 0; i < 14; i++) {
            x.swap(0, 1 + i % 11);
            x.set(0);
        }
        x.keep();
        is("20 are not more", 14, x::back);
        is("20 in a", 20, () -> x.box(0, 0));
        x.restore();
        x.swap(0, 5);
        x.set(0);
        refusesAndKeeps("21 are", x, STATE, x::back);
        is("the line stays", 21, () -> x.count(0));
        is("a part of a text", 0, () -> work(x, "back"));
        is("its reason", 6, () -> x.stopped(1));
        x.change(2, 0);
        is("each of its own box is not too many", 0, x::back);
    }

    private static void reason6OfOwnBoxes() {
        SortCases x = caseWithFullBoxAndStray();
        x.set(1);
        lineIs("an a for a b", x, "a!");
        x.change(2, 0);
        refusesAndKeeps("a has 20 types and would have one more", x, STATE, x::back);
        work(x, "back");
        is("in a text", 6, () -> x.stopped(1));
        x.set(0);
        is("19 and one are 20", 14, x::back);
        is("20 in a", 20, () -> x.box(0, 0));
    }

    private static void emptyBehindReturn() {
        SortCases x = quietCase();
        x.swap(0, 1);
        work(x, "set:aab");
        x.back();
        is("types", 0, () -> x.count(0));
        is("width", 0, () -> x.count(1));
        lineIs("returned", x, "");
        refuses("line(0, 1)", INDEX, () -> x.line(0, 1));
        is("lines", 1, () -> x.count(13));
        x.set(4);
        is("the text begins anew", 4, () -> x.line(0, 1));
        x.back();
        x.back();
        is("an empty line is returned too", 3, () -> x.count(13));
        work(x, "back;back");
        is("lines of a text", 5, () -> x.count(13));
    }

    /** Box a has a b on a c on four a's; b and c each have an a on top. Nothing was sorted yet. */
    private static SortCases caseWithTwoWrong() {
        SortCases x = quietCase();
        x.swap(0, 1);
        x.set(0);
        x.swap(0, 2);
        x.set(0);
        x.back();
        return x;
    }

    /** A b lies in box a under an a; nothing else lies wrong, and the case is at b. */
    private static SortCases caseWithWrongUnderRight() {
        SortCases x = quietCase();
        x.idle(1);
        x.swap(0, 1);
        x.idle(1);
        return x;
    }

    // ---- Order, settings

    private static void inOrder() {
        SortCases x = quietCase();
        is("a new case", 1, () -> x.count(6));
        work(x, "set:llllll;swap:la");
        is("one lies wrong", 1, () -> x.count(4));
        is("one is enough", 0, () -> x.count(6));
        x.set(11);
        is("an error of the line lies in no box", 1, () -> x.count(6));
        SortCases y = caseWithWrongUnderRight();
        is("one under a right one is enough", 0, () -> y.count(6));
    }

    private static void bothWaysAgree() {
        bothWays("a new case", new SortCases(), 0);
        bothWays("two wrong ones of a box", caseWithTwoWrong(), 4);
        bothWays("one under a right one", caseWithWrongUnderRight(), 1);
        bothWays("a full box", caseWithFullBox(), 14);
        bothWays("a full box of wrong ones", caseWithFullWrongBox(), 26);
        SortCases x = caseWithTwoWrong();
        work(x, "set:aaaaaa");
        bothWays("an empty box, and errors in the line", x, 2);
    }

    private static void bothWays(String what, SortCases x, int due) {
        is(what + ", through the boxes", due, () -> x.count(4));
        is(what + ", from the sorts", due, () -> x.count(5));
    }

    private static void settingIs(int setting, int lowest, int highest, int first) {
        SortCases x = new SortCases();
        is("at first", first, () -> x.count(14 + setting));
        is("the lowest value", first, () -> x.change(setting, lowest));
        is("it stands", lowest, () -> x.count(14 + setting));
        is("the highest value", lowest, () -> x.change(setting, highest));
        is("it stands", highest, () -> x.count(14 + setting));
        for (int value : new int[] {lowest - 1, highest + 1, MIN, MAX}) {
            refusesAndKeeps("value " + value, x, ARGUMENT, () -> x.change(setting, value));
        }
    }

    // ---- Input text

    private static void sixtyCharacters() {
        SortCases x = new SortCases();
        spell(x, "a".repeat(59));
        is("the 60th", 60, () -> x.append('a'));
        refusesAndKeeps("the 61st", x, STATE, () -> x.append('a'));
        is("60 are there", 60, x::clearBuffer);
        is("there is room behind clearBuffer()", 1, () -> x.append('a'));
    }

    /** The text is works, each of its parts is done. */
    private static void works(String text, int parts) {
        SortCases x = new SortCases();
        spell(x, text);
        is("firstError() of " + text, text.length(), x::firstError);
        is("work() of " + text, parts, x::work);
    }

    /** The text is works, but its first part cannot be done. */
    private static void worksButStops(String text, int reason) {
        SortCases x = new SortCases();
        spell(x, text);
        is("firstError() of " + text, text.length(), x::firstError);
        is("work() of " + text, 0, x::work);
        is("the reason of " + text, reason, () -> x.stopped(1));
    }

    /** The text is no works; an error at its length is none, as works begin with it. */
    private static void noWorks(String text, int error) {
        SortCases x = new SortCases();
        spell(x, text);
        is("firstError() of " + text, error, x::firstError);
        refusesAndKeeps("work() of " + text, x, ARGUMENT, x::work);
    }

    private static void oneOrMoreParts() {
        works("back", 1);
        works("back;back", 2);
        works("back;".repeat(11) + "back", 12);
        noWorks("", 0);
        noWorks(";", 0);
        noWorks(";back", 0);
        noWorks("back;", 5);
        noWorks("back;;", 5);
        noWorks("back;;back", 5);
        noWorks("back,back", 4);
        noWorks("backback", 4);
        noWorks("back:back", 4);
    }

    private static void oneOrMoreLetters() {
        works("set:a", 1);
        works("set:l", 1);
        works("set:abcdefghijkl", 1);
        worksButStops("set:" + "a".repeat(56), 1);
        noWorks("set:", 4);
        noWorks("set:;back", 4);
        noWorks("set;back", 3);
        noWorks("seta", 3);
        for (String other : new String[] {"`", "m", "A", "L", "1", ":", "!", "~"}) {
            noWorks("set:" + other, 4);
            noWorks("set:a" + other, 5);
        }
    }

    private static void places0To40() {
        for (String place : new String[] {"0", "1", "4", "9", "10", "19", "30", "39", "40"}) {
            worksButStops("fix" + place, 7);
        }
        noWorks("fix", 3);
        noWorks("fix;back", 3);
        for (String place : new String[] {"41", "49", "50", "99"}) {
            noWorks("fix" + place, 4);
        }
        noWorks("fix400", 5);
        noWorks("fix100", 5);
        noWorks("fix-1", 3);
        noWorks("fix/", 3);
        noWorks("fix:", 3);
        noWorks("fix4/", 4);
        noWorks("fix4:", 4);
    }

    private static void backAndNothingBehind() {
        works("back", 1);
        noWorks("b", 1);
        noWorks("bac", 3);
        noWorks("bac;back", 3);
        noWorks("back0", 4);
        noWorks("back1", 4);
        noWorks("backa", 4);
        noWorks("Back", 0);
    }

    private static void beats1To99() {
        for (String beats : new String[] {"1", "9", "10", "90", "99"}) {
            works("idle" + beats, 1);
        }
        SortCases x = new SortCases();
        work(x, "idle1;idle99");
        is("beats", 100, () -> x.count(11));
        noWorks("idle", 4);
        noWorks("idle;back", 4);
        noWorks("idle0", 4);
        noWorks("idle100", 6);
        noWorks("idle999", 6);
        noWorks("idle/", 4);
        noWorks("idle1:", 5);
    }

    private static void twoLetters() {
        works("swap:al", 1);
        works("swap:la", 1);
        works("swap:aa", 1);
        noWorks("swap:", 5);
        noWorks("swap:;back", 5);
        noWorks("swap:a", 6);
        noWorks("swap:a;back", 6);
        noWorks("swap:abc", 7);
        noWorks("swap:`a", 5);
        noWorks("swap:ma", 5);
        noWorks("swap:a`", 6);
        noWorks("swap:am", 6);
        noWorks("swapab", 4);
    }

    private static void swapWithAnEmptyBox() {
        SortCases x = quietCase();
        work(x, "set:kkkkkk");
        is("the empty one is named first", 1, () -> x.swap(10, 0));
        piles("it came", x, 10, "a");
        piles("from there", x, 0, "aaaaa");
        work(x, "set:aaaaa");
        is("the empty one is named last, and the other one empty then", 0, () -> x.swap(10, 0));
        piles("it left", x, 10, "");
        piles("for there", x, 0, "a");
        is("in a text", 1, () -> work(x, "swap:ka"));
        piles("in a text", x, 10, "a");
        is("in a text", 1, () -> work(x, "swap:ka"));
        piles("in a text", x, 0, "a");
    }

    private static void swapOfNothing() {
        SortCases x = quietCase();
        x.swap(0, 1);
        is("the same box", 2, () -> x.swap(0, 0));
        piles("the same box", x, 0, "baaaaa");
        work(x, "set:kkkkkkllllll");
        is("two empty ones", 2, () -> x.swap(10, 11));
        is("the same empty one", 2, () -> x.swap(11, 11));
        is("in a text", 2, () -> work(x, "swap:kl;swap:aa"));
        piles("empty", x, 10, "");
        piles("empty", x, 11, "");
        piles("the same box", x, 0, "baaaaa");
    }

    private static void noLeadingZero() {
        worksButStops("fix0", 7);
        noWorks("fix00", 4);
        noWorks("fix01", 4);
        noWorks("fix09", 4);
        noWorks("fix040", 4);
        noWorks("idle01", 4);
        noWorks("idle09", 4);
        works("idle10", 1);
    }

    private static void worksOfAnyLength() {
        noWorks("set:" + "a".repeat(54) + ";s", 60);
        noWorks("set:" + "a".repeat(50) + ";swap:", 60);
        noWorks("set:" + "a".repeat(55) + ";", 60);
        noWorks("set:" + "a".repeat(55) + "m", 59);
        noWorks("x" + "a".repeat(59), 0);
        noWorks("fix41;ba", 4);
        noWorks("xback", 0);
        noWorks("back;x;back;y", 5);
    }

    // ---- undo, exceptions

    private static void savedWithoutAChange() {
        SortCases x = new SortCases();
        x.keep();
        String[] names = {"swap(5, 5)", "change(0, 60)", "restore() of the same", "work() of which nothing is done"};
        Checks.Call[] calls = {() -> x.swap(5, 5), () -> x.change(0, 60), x::restore, () -> work(x, "fix0")};
        for (int i = 0; i < calls.length; i++) {
            calls[i].answer();
            is(names[i] + " saves a state", 1, () -> x.count(17));
            is(names[i] + " is undone", 0, x::undo);
        }
    }

    private static void throwingSavesNothing() {
        SortCases x = caseWithFullBoxAndStray();
        x.set(1);
        x.change(2, 0);
        // Six are saved: one must go, for a seventh to be seen.
        x.swap(5, 5);
        x.undo();
        Checks.Call[] calls = {() -> x.set(12), () -> x.idle(0), () -> x.idle(100), () -> x.fix(0), () -> x.fix(1), x::back,
            () -> x.swap(12, 0), () -> x.swap(0, 12), () -> x.change(0, 19), () -> x.change(3, 20), x::work, x::restore};
        for (int i = 0; i < calls.length; i++) {
            CHECKS.same("call " + i + " throws", true, Checks.answerOf(calls[i]).startsWith("throws."));
            is("saved states behind call " + i, 5, () -> x.count(17));
        }
        SortCases y = quietCase();
        work(y, "set:aaaaaa");
        refuses("a letter that cannot be set", STATE, () -> y.set(0));
        is("saved states", 3, () -> y.count(17));
    }

    private static void allIsSaved() {
        SortCases x = new SortCases();
        x.change(1, 3);
        x.change(2, 0);
        is("works", 6, () -> work(x, "swap:ab;set:ab;fix0;back;idle5;set:aab;fix9"));
        long digest = x.digest();
        int[] due = new int[17];
        for (int what = 0; what < due.length; what++) {
            due[what] = x.count(what);
        }
        is("works of all kinds", 9, () -> work(x, "set:cd;swap:ef;set:e;fix5;swap:gh;idle9;back;set:l;idle1"));
        for (int what = 9; what <= 13; what++) {
            CHECKS.same("count(" + what + ") grew", true, x.count(what) > due[what]);
        }
        is("there is no stop", NONE, () -> x.stopped(1));
        x.undo();
        for (int what = 0; what < due.length; what++) {
            int asked = what;
            is("count(" + what + ")", due[what], () -> x.count(asked));
        }
        is("the latest stop", 6, () -> x.stopped(0));
        is("its reason", 7, () -> x.stopped(1));
        CHECKS.same("digest()", digest, x.digest());
    }

    private static void notSaved() {
        SortCases x = new SortCases();
        x.set(0);
        x.set(1);
        spell(x, "fix");
        x.set(2);
        is("keep()", 3, x::keep);
        spell(x, "0");
        is("the saved states are dropped one by one", 2, x::undo);
        is("as count tells", 2, () -> x.count(17));
        x.undo();
        is("the snapshot is not undone", 3, x::restore);
        is("the saved states are not restored: it saved one", 2, () -> x.count(17));
        is("the buffer is neither undone nor restored", 5, () -> x.append(';'));
    }

    private static void atMostSixStates() {
        SortCases x = new SortCases();
        int[] due = {1, 2, 3, 4, 5, 6, 6};
        for (int i = 0; i < due.length; i++) {
            x.set(i);
            is("saved states behind " + (i + 1) + " calls", due[i], () -> x.count(17));
        }
        for (int left = 5; left >= 0; left--) {
            is("undo()", left, x::undo);
        }
        lineIs("the oldest state is dropped", x, "a");
        refusesAndKeeps("a seventh undo()", x, STATE, x::undo);
        SortCases y = quietCase();
        for (int i = 0; i < 20; i++) {
            y.set(i % 12);
        }
        for (int left = 5; left >= 0; left--) {
            is("undo()", left, y::undo);
            CHECKS.same("types", 14 + left, y.count(0));
        }
        refuses("a seventh undo() behind 22 calls", STATE, y::undo);
    }

    private static void throwingChangesNothing() {
        SortCases x = caseWithFullBoxAndStray();
        x.change(2, 0);
        x.set(1);
        x.keep();
        while (x.count(17) > 0) {
            x.undo();
        }
        x.restore();
        long before = x.digest();
        x.change(0, 20);
        spell(x, "fix0;".repeat(12));
        Checks.Call[] calls = {() -> x.set(-1), () -> x.idle(100), () -> x.fix(0), () -> x.fix(1), x::back, () -> x.swap(0, 12),
            () -> x.change(3, 20), () -> x.change(0, 121), () -> x.append(32), () -> x.append('a'), x::work, () -> x.stopped(2),
            () -> x.told(-1), () -> x.box(12, 0), () -> x.box(0, 7), () -> x.type(12, 0), () -> x.type(0, -1), () -> x.line(1, 0),
            () -> x.line(0, 4), () -> x.count(18), () -> x.whyNot(12), () -> x.ifSet(12, 1), () -> x.ifSet(0, 21)};
        long digest = x.digest();
        for (int i = 0; i < calls.length; i++) {
            CHECKS.same("call " + i + " throws", true, Checks.answerOf(calls[i]).startsWith("throws."));
            CHECKS.same("call " + i + " changes nothing", digest, x.digest());
        }
        is("the buffer", 60, x::clearBuffer);
        x.undo();
        CHECKS.same("the saved state", before, x.digest());
        x.undo();
        x.restore();
        CHECKS.same("the snapshot", before, x.digest());
    }

    private static void firstNamedIsThrown() {
        SortCases x = new SortCases();
        spell(x, "a".repeat(60));
        refuses("change: no such setting, value out of range", INDEX, () -> x.change(3, -1));
        refuses("change: no such setting, value out of range", INDEX, () -> x.change(-1, MAX));
        refuses("append: no such code, a full buffer", ARGUMENT, () -> x.append(32));
        refuses("append: no such code, a full buffer", ARGUMENT, () -> x.append(127));
        refuses("box: no such box, no such what", INDEX, () -> x.box(12, 7));
        refuses("type: no such box, below 0", INDEX, () -> x.type(-1, -1));
        refuses("line: no such place, no such what", INDEX, () -> x.line(0, 4));
        refuses("ifSet: no such letter, out of range", INDEX, () -> x.ifSet(12, 0));
    }

    private static void noneIsMinusOne() {
        SortCases x = quietCase();
        is("NONE", -1, () -> SortCases.NONE);
        work(x, "set:aaaaaa;idle1");
        is("no upmost type", -1, () -> x.box(0, 2));
        is("no type", -1, () -> x.type(0, 0));
        is("no hand", -1, () -> x.count(7));
        is("no character", -1, () -> x.told(6));
        is("no stop", -1, () -> x.stopped(0));
    }
}
