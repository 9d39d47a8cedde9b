/** What the tests by hand share: checks, and cases and texts that many of them begin with. */
abstract class CaseHelp {
    static final Class<IndexOutOfBoundsException> INDEX = IndexOutOfBoundsException.class;
    static final Class<IllegalArgumentException> ARGUMENT = IllegalArgumentException.class;
    static final Class<IllegalStateException> STATE = IllegalStateException.class;
    static final int NONE = SortCases.NONE;
    static final int MIN = Integer.MIN_VALUE;
    static final int MAX = Integer.MAX_VALUE;
    static final int[] OUTSIDE_THE_BOXES = {MIN, -1, 12, MAX};

    static final Checks CHECKS = new Checks("by hand");

    static void is(String what, long due, Checks.Call call) {
        CHECKS.answers(what, due, call);
    }

    static void refuses(String what, Class<? extends RuntimeException> due, Checks.Call call) {
        CHECKS.throwsIt(what, due, call);
    }

    /** A refused call changes nothing: neither what the digest tells nor what is saved. */
    static void refusesAndKeeps(String what, SortCases x, Class<? extends RuntimeException> due, Checks.Call call) {
        long digest = x.digest();
        refuses(what, due, call);
        CHECKS.same(what + " changes nothing", digest, x.digest());
    }

    static void spell(SortCases x, String text) {
        for (char c : text.toCharArray()) {
            x.append(c);
        }
    }

    static int work(SortCases x, String text) {
        spell(x, text);
        return x.work();
    }

    static String told(SortCases x) {
        StringBuilder text = new StringBuilder();
        for (int i = 0; x.told(i) != NONE; i++) {
            text.append((char) x.told(i));
        }
        return text.toString();
    }

    static void lineIs(String what, SortCases x, String due) {
        CHECKS.same(what + ": the line", due, told(x));
    }

    /** The types of a box, the upmost one first. */
    static String pile(SortCases x, int box) {
        StringBuilder text = new StringBuilder();
        for (int deep = 0; x.type(box, deep) != NONE; deep++) {
            text.append((char) ('a' + x.type(box, deep)));
        }
        return text.toString();
    }

    static void piles(String what, SortCases x, int box, String due) {
        CHECKS.same(what + ": box " + box, due, pile(x, box));
    }

    /** Without beats behind the letters, and with the widest line. */
    static SortCases quietCase() {
        SortCases x = new SortCases();
        x.change(0, 120);
        x.change(1, 0);
        return x;
    }

    /** Box a has 20 types, its six on top; the others came out of b to l. */
    static SortCases caseWithFullBox() {
        SortCases x = quietCase();
        work(x, "set:aaaaaa");
        for (int i = 0; i < 14; i++) {
            x.swap(0, 1 + i % 11);
            x.set(0);
        }
        x.back();
        return x;
    }

    /** Box a is full of 20 types of other sorts, with b's on top; box b has the six a's, and the case is at b. */
    static SortCases caseWithFullWrongBox() {
        SortCases x = quietCase();
        x.idle(1);
        for (int i = 0; i < 6; i++) {
            x.swap(0, 1);
            x.set(0);
            x.set(1);
        }
        x.back();
        work(x, "set:aaaaaa");
        for (int i = 0; i < 14; i++) {
            x.swap(0, 2 + i % 10);
            x.set(0);
        }
        x.back();
        return x;
    }

    /** Box a is full, one of its six a's lies upmost in b, and a b upmost in a. */
    static SortCases caseWithFullBoxAndStray() {
        SortCases x = caseWithFullBox();
        x.swap(0, 1);
        return x;
    }

    /** The hash of promise 26, from the answers of the other calls. */
    static long hashOf(SortCases x, String buffer) {
        long hash = 3863;
        for (int what = 0; what <= 17; what++) {
            hash = 31 * hash + x.count(what);
        }
        for (int box = 0; box < 12; box++) {
            for (int what = 0; what <= 6; what++) {
                hash = 31 * hash + x.box(box, what);
            }
            hash = 31 * hash + x.whyNot(box);
            hash = 31 * hash + x.ifSet(box, 3);
            for (char c : pile(x, box).toCharArray()) {
                hash = 31 * hash + (c - 'a');
            }
        }
        for (int place = 0; place < x.count(0); place++) {
            for (int what = 0; what <= 3; what++) {
                hash = 31 * hash + x.line(place, what);
            }
        }
        for (char c : told(x).toCharArray()) {
            hash = 31 * hash + c;
        }
        hash = 31 * hash + x.stopped(0);
        hash = 31 * hash + x.stopped(1);
        hash = 31 * hash + x.sortedIn();
        hash = 31 * hash + x.wrongThen();
        hash = 31 * hash + Double.doubleToLongBits(x.rightShare());
        hash = 31 * hash + buffer.length();
        for (char c : buffer.toCharArray()) {
            hash = 31 * hash + c;
        }
        return hash;
    }
}
