/** Each promise of the document with answers worked out by hand: ordinary inputs, edges, and wrong inputs. */
public final class PromiseTests extends CaseHelp {
    public static void main(String[] args) {
        promise1NewObject();
        promise2Set();
        promise2SetRunsOut();
        promise2BeatsBehindALetter();
        promise3Idle();
        promise3IdleSparesFullBoxes();
        promise4Fix();
        promise4FixByTheOwnBox();
        promise4FixReasons();
        promise5Back();
        promise5BackRefused();
        promise6Swap();
        promise7Change();
        promise8Append();
        promise9ClearBuffer();
        promise10FirstError();
        promise11Work();
        promise11WorkRefused();
        promise12Stopped();
        promise13Told();
        promise14Undo();
        promise14UndoOfEachCall();
        promise15Keep();
        promise16Restore();
        promise17Box();
        promise18Type();
        promise19Line();
        promise20Count();
        promise21WhyNot();
        promise22IfSet();
        promise23And24Sorted();
        promise25RightShare();
        promise26Digest();
        wrongCallsChangeNothing();
        CHECKS.end();
    }

    private static void promise1NewObject() {
        SortCases x = new SortCases();
        int[] due = {0, 0, 0, 72, 0, 0, 1, -1, 0, 0, 0, 0, 0, 0, 60, 1, 1, 0};
        for (int what = 0; what < due.length; what++) {
            int asked = what;
            is("new count(" + what + ")", due[what], () -> x.count(asked));
        }
        for (int box = 0; box < 12; box++) {
            char letter = (char) ('a' + box);
            piles("new", x, box, String.valueOf(new char[] {letter, letter, letter, letter, letter, letter}));
        }
        CHECKS.same("new line", "", told(x));
        is("new clearBuffer()", 0, x::clearBuffer);
        refuses("new restore()", STATE, x::restore);
        refuses("new undo()", STATE, x::undo);
        is("new stopped(0)", -1, () -> x.stopped(0));
        is("new stopped(1)", -1, () -> x.stopped(1));
    }

    private static void promise2Set() {
        SortCases x = new SortCases();
        x.change(1, 0);
        is("swap", 2, () -> x.swap(0, 1));
        is("set(0) takes a wrong type", 1, () -> x.set(0));
        is("set(0)", 0, () -> x.set(0));
        is("set(11)", 11, () -> x.set(11));
        CHECKS.same("line", "b!al", told(x));
        is("letter of the text", 0, () -> x.line(0, 1));
        is("hand", 11, () -> x.count(7));
        is("letters", 3, () -> x.count(9));
        is("width with gaps", 3 + 2 + 4 + 2, () -> x.count(1));
        is("saved", 5, () -> x.count(17));
        for (int letter : OUTSIDE_THE_BOXES) {
            refuses("set(" + letter + ")", INDEX, () -> x.set(letter));
        }
        is("saved, behind wrong calls", 5, () -> x.count(17));
    }

    private static void promise2SetRunsOut() {
        SortCases x = new SortCases();
        for (int i = 0; i < 6; i++) {
            is("set(0)", 0, () -> x.set(0));
        }
        is("an empty box", 1, () -> x.whyNot(0));
        refuses("set(0) of an empty box", STATE, () -> x.set(0));
        x.change(0, 20);
        is("17 of 20", 17, () -> x.count(1));
        refuses("set(0): the box is empty", STATE, () -> x.set(0));
        is("reason 1 goes ahead of 2", 1, () -> x.whyNot(0));
        is("an a would make 20, but none is there; a d does", 3, () -> x.set(3));
        is("the measure is full", 20, () -> x.count(1));
        refuses("set(3) beyond the measure", STATE, () -> x.set(3));
        is("hand stays", 3, () -> x.count(7));
        x.change(0, 22);
        refuses("22 for a width of 23", STATE, () -> x.set(3));
        x.change(0, 23);
        is("23 for a width of 23", 3, () -> x.set(3));
    }

    private static void promise2BeatsBehindALetter() {
        SortCases x = new SortCases();
        x.swap(0, 1);
        x.change(1, 2);
        x.set(1);
        piles("the hand is in b: a's upmost b stays", x, 0, "baaaaa");
        is("the case went on, and on over the hand's box", 2, () -> x.count(8));
        is("beats", 2, () -> x.count(11));
        is("moves", 0, () -> x.count(10));
        SortCases y = new SortCases();
        y.swap(0, 1);
        y.set(5);
        piles("one beat", y, 1, "babbbbb");
        is("the case stays behind a move", 0, () -> y.count(8));
        is("moves", 1, () -> y.count(10));
    }

    private static void promise3Idle() {
        SortCases x = new SortCases();
        x.swap(0, 1);
        is("idle(1) moves b", 1, () -> x.idle(1));
        piles("idle(1)", x, 0, "aaaaa");
        piles("idle(1)", x, 1, "babbbbb");
        is("idle(13) goes round", 0, () -> x.idle(13));
        is("from a to b", 1, () -> x.count(8));
        is("beats", 14, () -> x.count(11));
        is("moved", 1, () -> x.count(10));
        is("idle(99)", 0, () -> x.idle(99));
        for (int beats : new int[] {Integer.MIN_VALUE, -1, 0, 100, Integer.MAX_VALUE}) {
            refuses("idle(" + beats + ")", ARGUMENT, () -> x.idle(beats));
        }
        SortCases y = new SortCases();
        y.change(1, 0);
        y.swap(0, 1);
        y.set(0);
        is("the hand leaves ahead of the beats", 1, () -> y.idle(2));
        is("hand", -1, () -> y.count(7));
        piles("a came home", y, 0, "aaaaaa");
    }

    private static void promise3IdleSparesFullBoxes() {
        SortCases x = caseWithFullBox();
        x.idle(1);
        is("the case is at b", 1, () -> x.count(8));
        x.swap(0, 1);
        is("box a is full, so the a on b stays", 0, () -> x.idle(1));
        is("and the case goes on", 2, () -> x.count(8));
        is("the b on a goes home behind a round", 1, () -> x.idle(11));
        is("box a has room now", 19, () -> x.box(0, 0));
    }

    private static void promise4Fix() {
        SortCases x = quietCase();
        x.swap(0, 1);
        x.swap(2, 3);
        work(x, "set:aabbc");
        CHECKS.same("line", "b!aa!bd!", told(x));
        refuses("fix(1) without an error", STATE, () -> x.fix(1));
        is("hand stays", 2, () -> x.count(7));
        is("fix(0)", 2, () -> x.fix(0));
        CHECKS.same("line", "aaa!bd!", told(x));
        piles("b lies where the compositor thinks, one a is gone", x, 0, "baaa");
        is("hand", -1, () -> x.count(7));
        is("fix(2)", 1, () -> x.fix(2));
        is("fix(4)", 0, () -> x.fix(4));
        CHECKS.same("line", "aabbc", told(x));
        is("corrections", 3, () -> x.count(12));
        is("wrong", 4, () -> x.count(4));
        refuses("fix(5)", INDEX, () -> x.fix(5));
        refuses("fix(-1)", INDEX, () -> x.fix(-1));
        refuses("fix(max)", INDEX, () -> x.fix(Integer.MAX_VALUE));
    }

    private static void promise4FixByTheOwnBox() {
        SortCases x = quietCase();
        x.change(2, 0);
        x.swap(0, 1);
        x.set(0);
        x.swap(0, 2);
        piles("c on a", x, 0, "caaaa");
        is("fix(0)", 0, () -> x.fix(0));
        piles("the right type is taken from under c", x, 0, "caaa");
        piles("b went home", x, 1, "babbbbb");
        CHECKS.same("line", "a", told(x));
    }

    private static void promise4FixReasons() {
        SortCases x = caseWithFullBox();
        x.swap(0, 1);
        x.set(0);
        x.idle(24);
        is("box a is full again", 20, () -> x.box(0, 0));
        is("reason 5 with setting 2 as 1", 5, () -> x.line(0, 3));
        refuses("fix(0) into a full box", STATE, () -> x.fix(0));
        is("works stop there", 0, () -> work(x, "fix0;back"));
        is("reason", 5, () -> x.stopped(1));
        x.change(2, 0);
        is("its own box has room", 0, () -> x.line(0, 3));
        is("fix(0)", 0, () -> x.fix(0));
        is("one a less", 19, () -> x.box(0, 0));
        SortCases y = quietCase();
        y.swap(0, 1);
        work(y, "set:aaaaaa");
        is("no right type in an empty box", 4, () -> y.line(0, 3));
        refuses("fix(0)", STATE, () -> y.fix(0));
        y.swap(0, 2);
        is("a wrong one is none", 4, () -> y.line(0, 3));
        is("an error is asked first", 3, () -> y.line(1, 3));
    }

    private static void promise5Back() {
        SortCases x = quietCase();
        x.swap(0, 1);
        work(x, "set:abca");
        is("back()", 2, x::back);
        piles("the last one is put back first", x, 0, "baaaaa");
        piles("back()", x, 1, "abbbbb");
        CHECKS.same("line", "", told(x));
        is("hand", -1, () -> x.count(7));
        is("lines", 1, () -> x.count(13));
        work(x, "set:abca");
        x.change(2, 0);
        is("each to its own box", 0, x::back);
        piles("back()", x, 0, "aaaaaa");
        piles("back()", x, 1, "bbbbbb");
        is("an empty line goes back too", 0, x::back);
        is("lines", 3, () -> x.count(13));
    }

    private static void promise5BackRefused() {
        SortCases x = caseWithFullBox();
        x.set(0);
        x.back();
        is("20 are not too many", 20, () -> x.box(0, 0));
        x.swap(0, 1);
        x.set(0);
        x.idle(24);
        is("full again", 20, () -> x.box(0, 0));
        refuses("21 are", STATE, x::back);
        is("the line stays", 1, () -> x.count(0));
        is("work", 0, () -> work(x, "back;idle1"));
        is("part", 0, () -> x.stopped(0));
        is("reason", 6, () -> x.stopped(1));
    }

    private static void promise6Swap() {
        SortCases x = quietCase();
        is("swap(0, 1)", 2, () -> x.swap(0, 1));
        piles("swap", x, 0, "baaaaa");
        piles("swap", x, 1, "abbbbb");
        is("swap(5, 5)", 2, () -> x.swap(5, 5));
        piles("swap", x, 5, "ffffff");
        is("swap(1, 0)", 0, () -> x.swap(1, 0));
        work(x, "set:llllllkkkkkk");
        is("swap(11, 0): one is empty", 1, () -> x.swap(11, 0));
        piles("swap", x, 11, "a");
        piles("swap", x, 0, "aaaaa");
        is("swap(11, 10): the other one is empty", 1, () -> x.swap(11, 10));
        piles("swap", x, 11, "");
        piles("swap", x, 10, "a");
        x.swap(10, 0);
        piles("both have types", x, 10, "a");
        x.set(10);
        is("hand", 10, () -> x.count(7));
        is("two empty ones", 0, () -> x.swap(10, 11));
        is("hand", -1, () -> x.count(7));
        is("an empty one with itself", 0, () -> x.swap(10, 10));
        for (int box : OUTSIDE_THE_BOXES) {
            refuses("swap(" + box + ", 0)", INDEX, () -> x.swap(box, 0));
            refuses("swap(0, " + box + ")", INDEX, () -> x.swap(0, box));
        }
    }

    private static void promise7Change() {
        SortCases x = new SortCases();
        x.set(0);
        is("change(0, 20)", 60, () -> x.change(0, 20));
        is("hand", -1, () -> x.count(7));
        is("change(0, 120)", 20, () -> x.change(0, 120));
        is("change(1, 9)", 1, () -> x.change(1, 9));
        is("change(1, 0)", 9, () -> x.change(1, 0));
        is("change(2, 0)", 1, () -> x.change(2, 0));
        is("change(2, 1)", 0, () -> x.change(2, 1));
        work(x, "set:bbbbbb");
        is("a measure that is less than the line", 120, () -> x.change(0, 20));
        is("width", 2 + 18 + 6, () -> x.count(1));
        is("too wide", 2, () -> x.whyNot(0));
        int[][] bad = {{0, 19}, {0, 121}, {1, -1}, {1, 10}, {2, -1}, {2, 2}, {0, Integer.MIN_VALUE}, {2, Integer.MAX_VALUE}};
        for (int[] pair : bad) {
            refuses("change(" + pair[0] + ", " + pair[1] + ")", ARGUMENT, () -> x.change(pair[0], pair[1]));
        }
        for (int setting : new int[] {-1, 3, Integer.MIN_VALUE, Integer.MAX_VALUE}) {
            refuses("change(" + setting + ", -5)", INDEX, () -> x.change(setting, -5));
        }
    }

    private static void promise8Append() {
        SortCases x = new SortCases();
        is("append(33)", 1, () -> x.append(33));
        is("append(126)", 2, () -> x.append(126));
        refuses("append(32)", ARGUMENT, () -> x.append(32));
        refuses("append(127)", ARGUMENT, () -> x.append(127));
        refuses("append(min)", ARGUMENT, () -> x.append(Integer.MIN_VALUE));
        for (int length = 3; length <= 60; length++) {
            is("append(97)", length, () -> x.append(97));
        }
        refuses("append(97) to 60", STATE, () -> x.append(97));
        refuses("append(32) to 60", ARGUMENT, () -> x.append(32));
        is("not undoable", 0, () -> x.count(17));
        is("clearBuffer()", 60, x::clearBuffer);
    }

    private static void promise9ClearBuffer() {
        SortCases x = new SortCases();
        spell(x, "zz");
        is("clearBuffer()", 2, x::clearBuffer);
        is("clearBuffer()", 0, x::clearBuffer);
        is("append", 1, () -> x.append('b'));
        is("firstError()", 1, x::firstError);
        is("not undoable", 0, () -> x.count(17));
    }

    private static void promise10FirstError() {
        String[] fit = {"", "s", "se", "set", "set:", "set:a", "set:l", "sw", "swap:", "swap:a", "swap:ab", "fix", "fix0", "fix9",
            "fix39", "fix40", "fix4", "fix10", "b", "back", "back;", "i", "idle", "idle1", "idle99", "idle10", "back;fix0;idle7",
            "set:abcdefghijkl;swap:aa;s", "back;back;back;back;back;back;back;back;back;back;back;back"};
        for (String text : fit) {
            firstErrorIs(text, text.length());
        }
        firstErrorIs("x", 0);
        firstErrorIs(";", 0);
        firstErrorIs("a", 0);
        firstErrorIs("set;", 3);
        firstErrorIs("seta", 3);
        firstErrorIs("set:;", 4);
        firstErrorIs("set:m", 4);
        firstErrorIs("set:A", 4);
        firstErrorIs("set:ab1", 6);
        firstErrorIs("fix;", 3);
        firstErrorIs("fix41", 4);
        firstErrorIs("fix50", 4);
        firstErrorIs("fix00", 4);
        firstErrorIs("fix01", 4);
        firstErrorIs("fix400", 5);
        firstErrorIs("fix100", 5);
        firstErrorIs("fixa", 3);
        firstErrorIs("fix1a", 4);
        firstErrorIs("bac;", 3);
        firstErrorIs("backk", 4);
        firstErrorIs("back1", 4);
        firstErrorIs("idle0", 4);
        firstErrorIs("idle;", 4);
        firstErrorIs("idle100", 6);
        firstErrorIs("idle999", 6);
        firstErrorIs("swap:;", 5);
        firstErrorIs("swap:a;", 6);
        firstErrorIs("swap:abc", 7);
        firstErrorIs("swap:mb", 5);
        firstErrorIs("swap:a1", 6);
        firstErrorIs("sat", 1);
        firstErrorIs("back;;", 5);
        firstErrorIs("back;x;back;y", 5);
        firstErrorIs("back;set:abz;fix99", 11);
    }

    private static void firstErrorIs(String text, int due) {
        SortCases x = new SortCases();
        spell(x, text);
        is("firstError() of " + text, due, x::firstError);
        is("it changes nothing of " + text, text.length(), x::clearBuffer);
    }

    private static void promise11Work() {
        SortCases x = new SortCases();
        is("works", 5, () -> work(x, "swap:ab;set:ab;fix0;idle12;back"));
        is("buffer", 0, x::clearBuffer);
        is("one saved state", 1, () -> x.count(17));
        is("letters", 2, () -> x.count(9));
        is("corrections", 1, () -> x.count(12));
        is("lines", 1, () -> x.count(13));
        is("beats", 14, () -> x.count(11));
        is("no stop", -1, () -> x.stopped(0));
        is("hand", -1, () -> x.count(7));
        is("a part that sets stops in it", 1, () -> work(x, "back;set:aaaaaaaaa;idle5"));
        is("part", 1, () -> x.stopped(0));
        is("reason", 1, () -> x.stopped(1));
        CHECKS.same("those ahead are set", x.count(0), x.count(9) - 2);
        is("the parts behind are not done", 0, () -> x.box(0, 0));
        is("hand", 0, () -> x.count(7));
        is("undo", 1, x::undo);
        is("the whole call is undone", 0, () -> x.count(0));
        is("and the stop", -1, () -> x.stopped(1));
        SortCases y = new SortCases();
        y.change(0, 20);
        is("beyond the measure", 0, () -> work(y, "set:lllll"));
        is("reason", 2, () -> y.stopped(1));
        CHECKS.same("line", "llll", told(y));
        is("a part that is not done leaves the hand", 0, () -> work(y, "fix0"));
        is("hand", 11, () -> y.count(7));
        is("reason", 3, () -> y.stopped(1));
        is("saved, also if nothing is done", 3, () -> y.count(17));
        is("all done: no stop", 1, () -> work(y, "back"));
        is("no stop", -1, () -> y.stopped(0));
    }

    private static void promise11WorkRefused() {
        String[] bad = {"", "b", "back;", "set:", "set", "fix", "idle", "swap:a", "swap:", ";back", "back;;back", "fix41", "idle0", "Back"};
        for (String text : bad) {
            SortCases x = new SortCases();
            spell(x, text);
            refuses("work() of " + text, ARGUMENT, x::work);
            is("the buffer stays", text.length(), x::clearBuffer);
            is("nothing is saved", 0, () -> x.count(17));
        }
    }

    private static void promise12Stopped() {
        SortCases x = new SortCases();
        is("works", 2, () -> work(x, "set:a;idle3;fix1;back"));
        is("part", 2, () -> x.stopped(0));
        is("no such place", 7, () -> x.stopped(1));
        x.idle(1);
        is("other calls leave the stop", 7, () -> x.stopped(1));
        is("works", 0, () -> work(x, "fix40"));
        is("part", 0, () -> x.stopped(0));
        for (int what : new int[] {-1, 2, Integer.MIN_VALUE, Integer.MAX_VALUE}) {
            refuses("stopped(" + what + ")", ARGUMENT, () -> x.stopped(what));
        }
    }

    private static void promise13Told() {
        SortCases x = quietCase();
        is("an empty line", -1, () -> x.told(0));
        x.swap(0, 11);
        work(x, "set:aab");
        int[] due = {'l', '!', 'a', 'b', -1, -1};
        for (int i = 0; i < due.length; i++) {
            int index = i;
            is("told(" + i + ")", due[i], () -> x.told(index));
        }
        is("told(max)", -1, () -> x.told(Integer.MAX_VALUE));
        refuses("told(-1)", ARGUMENT, () -> x.told(-1));
        refuses("told(min)", ARGUMENT, () -> x.told(Integer.MIN_VALUE));
    }

    private static void promise14Undo() {
        SortCases x = new SortCases();
        long first = x.digest();
        x.swap(3, 3);
        is("saved, also if nothing changes", 0, x::undo);
        CHECKS.same("undone", first, x.digest());
        for (int i = 0; i < 8; i++) {
            x.set(i);
        }
        is("at most 6", 6, () -> x.count(17));
        for (int left = 5; left >= 0; left--) {
            is("undo()", left, x::undo);
        }
        refuses("undo() of none", STATE, x::undo);
        is("the two oldest ones are dropped", 2, () -> x.count(0));
        is("hand", 1, () -> x.count(7));
        is("beats", 2, () -> x.count(11));
        spell(x, "fix");
        x.keep();
        x.change(1, 7);
        x.undo();
        is("settings come back", 1, () -> x.count(15));
        is("the buffer does not", 3, x::clearBuffer);
        x.idle(1);
        x.undo();
        is("the snapshot stays", 2, x::restore);
    }

    private static void promise14UndoOfEachCall() {
        SortCases x = quietCase();
        x.undo();
        x.undo();
        x.change(1, 3);
        work(x, "swap:ab;swap:cd;set:aacc;fix0;back;set:aabbcc;fix9");
        x.keep();
        String[] undoable = {"set", "idle", "fix", "back", "swap", "change", "work", "restore"};
        Checks.Call[] calls = {() -> x.set(4), () -> x.idle(9), () -> x.fix(firstFit(x)), x::back, () -> x.swap(4, 5),
            () -> x.change(0, 90), () -> work(x, "set:e;idle40;back"), x::restore};
        long digest = x.digest();
        for (int i = 0; i < calls.length; i++) {
            calls[i].answer();
            is(undoable[i] + " saves", 3, () -> x.count(17));
            is(undoable[i] + " is undone", 2, x::undo);
            CHECKS.same("undo of " + undoable[i], digest, x.digest());
        }
    }

    private static int firstFit(SortCases x) {
        int place = 0;
        while (x.line(place, 3) != 0) {
            place++;
        }
        return place;
    }

    private static void promise15Keep() {
        SortCases x = new SortCases();
        is("keep()", 0, x::keep);
        x.set(0);
        is("keep()", 1, x::keep);
        x.set(0);
        is("not undoable", 2, () -> x.count(17));
        is("the later one stands", 1, x::restore);
    }

    private static void promise16Restore() {
        SortCases x = new SortCases();
        refuses("restore()", STATE, x::restore);
        is("nothing is saved", 0, () -> x.count(17));
        work(x, "set:abc;fix0");
        x.keep();
        long digest = x.digest();
        work(x, "idle5;back");
        x.change(2, 0);
        spell(x, "abc");
        is("restore()", 3, x::restore);
        is("buffer stays", 3, x::clearBuffer);
        is("undoable", 4, () -> x.count(17));
        is("stop", 3, () -> x.stopped(1));
        is("hand", 2, () -> x.count(7));
        is("setting", 1, () -> x.count(16));
        is("undo()", 3, x::undo);
        is("setting", 0, () -> x.count(16));
        is("stop", -1, () -> x.stopped(1));
        is("again", 3, x::restore);
        x.undo();
        x.undo();
        x.undo();
        CHECKS.same("the state of the snapshot", digest, x.digest());
        x.set(4);
        is("a change behind it leaves the snapshot", 3, x::restore);
    }

    private static void promise17Box() {
        SortCases x = quietCase();
        x.swap(0, 1);
        x.swap(0, 2);
        x.set(4);
        x.set(5);
        boxIs(x, 0, 6, 1, 2, 2, 0, 1, 1);
        boxIs(x, 1, 6, 1, 0, 3, 0, 0, 1);
        boxIs(x, 2, 6, 1, 1, 4, 0, 0, 1);
        boxIs(x, 4, 5, 0, 4, 3, 0, 0, 0);
        boxIs(x, 5, 5, 0, 5, 4, 1, 0, 0);
        x.idle(12);
        boxIs(x, 0, 6, 0, 0, 2, 0, 0, 0);
        boxIs(x, 10, 6, 0, 10, 3, 0, 1, 0);
        work(x, "set:llllll");
        boxIs(x, 11, 0, 0, -1, 4, 1, 0, 0);
        for (int box : OUTSIDE_THE_BOXES) {
            refuses("box(" + box + ", 9)", INDEX, () -> x.box(box, 9));
        }
        for (int what : new int[] {-1, 7, Integer.MIN_VALUE, Integer.MAX_VALUE}) {
            refuses("box(0, " + what + ")", ARGUMENT, () -> x.box(0, what));
        }
    }

    private static void boxIs(SortCases x, int box, int... due) {
        for (int i = 0; i < due.length; i++) {
            int what = i;
            is("box(" + box + ", " + what + ")", due[what], () -> x.box(box, what));
        }
    }

    private static void promise18Type() {
        SortCases x = new SortCases();
        x.swap(7, 3);
        is("type(7, 0)", 3, () -> x.type(7, 0));
        is("type(7, 5)", 7, () -> x.type(7, 5));
        is("type(7, 6)", -1, () -> x.type(7, 6));
        is("type(7, max)", -1, () -> x.type(7, Integer.MAX_VALUE));
        refuses("type(7, -1)", ARGUMENT, () -> x.type(7, -1));
        refuses("type(7, min)", ARGUMENT, () -> x.type(7, Integer.MIN_VALUE));
        for (int box : OUTSIDE_THE_BOXES) {
            refuses("type(" + box + ", -1)", INDEX, () -> x.type(box, -1));
        }
        SortCases full = caseWithFullBox();
        piles("a full box, in the order in which the line was set", full, 0, "aaaaaabcdefghijklbcd");
        is("type(0, 19)", 3, () -> full.type(0, 19));
        is("type(0, 20)", -1, () -> full.type(0, 20));
    }

    private static void promise19Line() {
        SortCases x = quietCase();
        refuses("line(0, 0) of an empty line", INDEX, () -> x.line(0, 0));
        x.swap(0, 4);
        work(x, "set:aab");
        int[][] due = {{4, 0, 1, 0}, {0, 0, 0, 3}, {1, 1, 0, 3}};
        for (int place = 0; place < 3; place++) {
            for (int what = 0; what < 4; what++) {
                int p = place;
                int w = what;
                is("line(" + p + ", " + w + ")", due[p][w], () -> x.line(p, w));
            }
        }
        for (int place : new int[] {-1, 3, Integer.MIN_VALUE, Integer.MAX_VALUE}) {
            refuses("line(" + place + ", 9)", INDEX, () -> x.line(place, 9));
        }
        for (int what : new int[] {-1, 4, Integer.MIN_VALUE, Integer.MAX_VALUE}) {
            refuses("line(0, " + what + ")", ARGUMENT, () -> x.line(0, what));
        }
    }

    private static void promise20Count() {
        SortCases x = new SortCases();
        work(x, "swap:ab;swap:cd;set:ac;fix0;back;set:l");
        // The a of box b goes home behind the letter c; b lies in box a then, d in c and c in d.
        int[] due = {1, 4, 0, 71, 3, 3, 0, 11, 2, 3, 1, 3, 1, 1, 60, 1, 1, 1};
        for (int what = 0; what < due.length; what++) {
            int asked = what;
            is("count(" + what + ")", due[what], () -> x.count(asked));
        }
        SortCases y = quietCase();
        y.swap(0, 1);
        work(y, "set:abc");
        is("width", 3 + 2 + 4 + 2, () -> y.count(1));
        is("errors", 2, () -> y.count(2));
        is("types in boxes", 69, () -> y.count(3));
        is("wrong", 0, () -> y.count(4));
        is("second way", 0, () -> y.count(5));
        is("in order, as the errors lie in the line", 1, () -> y.count(6));
        y.back();
        is("wrong", 2, () -> y.count(4));
        is("second way", 2, () -> y.count(5));
        is("not in order", 0, () -> y.count(6));
        for (int what : new int[] {-1, 18, Integer.MIN_VALUE, Integer.MAX_VALUE}) {
            refuses("count(" + what + ")", ARGUMENT, () -> x.count(what));
        }
    }

    private static void promise21WhyNot() {
        SortCases x = quietCase();
        is("whyNot(0)", 0, () -> x.whyNot(0));
        work(x, "set:aaaaaa");
        is("whyNot(0)", 1, () -> x.whyNot(0));
        x.change(0, 20);
        is("whyNot(3): 17 and 3", 0, () -> x.whyNot(3));
        is("whyNot(4): 17 and 4", 2, () -> x.whyNot(4));
        x.swap(3, 4);
        is("whyNot(3), as the type is wider", 2, () -> x.whyNot(3));
        is("whyNot(4), as the type is less wide", 0, () -> x.whyNot(4));
        for (int letter : OUTSIDE_THE_BOXES) {
            refuses("whyNot(" + letter + ")", INDEX, () -> x.whyNot(letter));
        }
    }

    private static void promise22IfSet() {
        SortCases x = quietCase();
        is("ifSet(0, 20)", 0, () -> x.ifSet(0, 20));
        work(x, "set:aaaaa");
        x.swap(0, 1);
        piles("a has one type", x, 0, "b");
        is("ifSet(0, 1)", 1, () -> x.ifSet(0, 1));
        is("ifSet(0, 2), as far as it can be", 1, () -> x.ifSet(0, 2));
        is("ifSet(1, 6)", 1, () -> x.ifSet(1, 6));
        is("nothing is changed", 5, () -> x.count(0));
        x.change(0, 20);
        is("14 and 4 do", 1, () -> x.ifSet(0, 20));
        x.swap(2, 5);
        is("14 and 5 do", 1, () -> x.ifSet(2, 1));
        x.swap(3, 5);
        work(x, "set:d");
        is("nothing goes into 19", 0, () -> x.ifSet(2, 3));
        SortCases full = caseWithFullBox();
        is("14 of 20 are errors", 14, () -> full.ifSet(0, 20));
        is("one less", 13, () -> full.ifSet(0, 19));
        full.change(0, 20);
        is("the line has room for the six right ones alone", 0, () -> full.ifSet(0, 6));
        for (int letter : OUTSIDE_THE_BOXES) {
            refuses("ifSet(" + letter + ", 0)", INDEX, () -> x.ifSet(letter, 0));
        }
        for (int times : new int[] {-1, 0, 21, Integer.MIN_VALUE, Integer.MAX_VALUE}) {
            refuses("ifSet(0, " + times + ")", ARGUMENT, () -> x.ifSet(0, times));
        }
    }

    private static void promise23And24Sorted() {
        SortCases x = new SortCases();
        is("sortedIn()", 0, x::sortedIn);
        is("wrongThen()", 0, x::wrongThen);
        x.swap(0, 1);
        x.swap(2, 3);
        is("b at once, d behind a, b and c", 4, x::sortedIn);
        is("a and c lie under others", 2, x::wrongThen);
        is("nothing is changed", 4, () -> x.count(4));
        is("nor the beats", 0, () -> x.count(11));
        int moves = x.idle(4);
        CHECKS.same("so it is", 2, moves);
        is("and stays", 0, x::sortedIn);
        is("a c is behind them", 2, () -> x.count(4));
        SortCases y = quietCase();
        y.swap(10, 11);
        y.set(10);
        is("the hand is taken out of box k and l: 11 beats to l, then the k moves", 12, y::sortedIn);
        is("wrongThen()", 0, y::wrongThen);
        is("the hand stays", 10, () -> y.count(7));
        y.idle(11);
        is("from l on", 1, y::sortedIn);
        SortCases z = quietCase();
        work(z, "set:kkkkkk;idle11;swap:ka");
        is("the case is at l, just behind the wrong one", 11, () -> z.count(8));
        is("the last one of 12 beats", 12, z::sortedIn);
        is("wrongThen()", 0, z::wrongThen);
        SortCases far = caseWithFullBox();
        far.swap(0, 1);
        CHECKS.same("it is as long idle beats tell", wrongBehindLongIdle(far), far.wrongThen());
    }

    private static int wrongBehindLongIdle(SortCases x) {
        for (int i = 0; i < 6; i++) {
            x.idle(99);
        }
        int wrong = x.count(4);
        for (int i = 0; i < 6; i++) {
            x.undo();
        }
        return wrong;
    }

    private static void promise25RightShare() {
        SortCases x = quietCase();
        CHECKS.same("an empty line", 1.0, x.rightShare());
        x.swap(0, 1);
        x.set(0);
        CHECKS.same("none is right", 0.0, x.rightShare());
        x.set(0);
        CHECKS.same("one of two", 0.5, x.rightShare());
        x.set(0);
        CHECKS.same("two of three", 2.0 / 3.0, x.rightShare());
        x.fix(0);
        CHECKS.same("all", 1.0, x.rightShare());
    }

    private static void promise26Digest() {
        SortCases x = quietCase();
        CHECKS.same("new", hashOf(new SortCases(), ""), new SortCases().digest());
        work(x, "swap:ab;swap:cl;set:abcabcd;fix40");
        spell(x, "fix9;");
        for (int i = 0; i < 30; i++) {
            if (x.whyNot(i % 12) == 0) {
                x.set(i % 12);
            }
            CHECKS.same("digest() " + i, hashOf(x, "fix9;"), x.digest());
        }
        x.clearBuffer();
        CHECKS.same("without a buffer", hashOf(x, ""), x.digest());
    }

    private static void wrongCallsChangeNothing() {
        SortCases x = quietCase();
        work(x, "swap:ab;set:aaaaaa");
        spell(x, "back;");
        long digest = x.digest();
        Checks.Call[] calls = {() -> x.set(0), () -> x.set(12), () -> x.idle(0), () -> x.fix(0), () -> x.fix(1), () -> x.fix(6),
            () -> x.swap(0, 12), () -> x.change(1, 10), () -> x.change(3, 0), () -> x.append(32), x::work, x::restore,
            () -> x.told(-1), () -> x.stopped(2), () -> x.box(0, 7), () -> x.type(0, -1), () -> x.line(0, 4), () -> x.count(18),
            () -> x.whyNot(12), () -> x.ifSet(0, 21)};
        for (int i = 0; i < calls.length; i++) {
            CHECKS.same("call " + i + " throws", true, Checks.answerOf(calls[i]).startsWith("throws."));
            CHECKS.same("call " + i + " changes nothing", digest, x.digest());
        }
    }
}
