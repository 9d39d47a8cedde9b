import java.util.Random;

/** Long runs of calls, each answer and each digest compared with those of the model. The seeds are written down. */
public final class ModelTests {
    private static final int CALLS = 512;
    private static final int[] FAR = {Integer.MIN_VALUE, -13, -1, 12, 100, 121, Integer.MAX_VALUE};

    private final Checks checks;
    private final Random random;
    private final SortCases got = new SortCases();
    private final Model due = new Model();
    private final String run;
    /** How many of the first boxes the run likes: with few of them they soon run out. */
    private final int liked;
    private int reasons = 0;

    private ModelTests(Checks checks, int seed) {
        this.checks = checks;
        this.random = new Random(seed);
        this.run = "run " + seed;
        this.liked = 1 + random.nextInt(12);
    }

    public static void main(String[] args) {
        Checks checks = new Checks("ModelTests");
        int seen = 0;
        for (int seed = 0; seed < 400; seed++) {
            ModelTests test = new ModelTests(checks, seed);
            test.play();
            seen |= test.reasons;
        }
        for (int seed = 400; seed < 460; seed++) {
            ModelTests test = new ModelTests(checks, seed);
            if (seed % 2 == 0) {
                test.growLines();
            } else {
                test.fillOneBox();
            }
            seen |= test.reasons;
        }
        checks.same("every reason stopped a work in some run, as bits", 0b11111110, seen);
        checks.end();
    }

    private void play() {
        for (int i = 0; i < CALLS; i++) {
            call(random.nextInt(40));
            compareState(i % 16 == 0);
        }
    }

    /** Takes types of all boxes for one letter, so that its line is more than its box can take back. */
    private void growLines() {
        int letter = random.nextInt(12);
        both("change", 0, 120);
        both("change", 1, random.nextInt(3) / 2);
        for (int round = 0; round < 3; round++) {
            int most = 5 + random.nextInt(25);
            for (int i = 0; i < most; i++) {
                both("swap", letter, (letter + 1 + random.nextInt(11)) % 12);
                both("set", letter, 0);
            }
            compareState(true);
            doText("back");
            both("change", 2, random.nextInt(2));
            for (int place = 0; place < 6; place++) {
                doText("fix" + place);
            }
        }
        goOnWith(letter);
    }

    /** Fills a box with 20 types, takes a wrong one out, and lets the case put a right one in: now none goes back. */
    private void fillOneBox() {
        int letter = random.nextInt(12);
        int other = (letter + 1 + random.nextInt(11)) % 12;
        both("change", 0, 120);
        both("change", 1, 0);
        for (int i = 0; i < 20; i++) {
            if (i >= 6) {
                both("swap", letter, (letter + 1 + i % 11) % 12);
            }
            both("set", letter, 0);
        }
        both("back", 0, 0);
        both("swap", letter, other);
        both("set", letter, 0);
        both("idle", 24, 0);
        compareState(true);
        both("fix", 0, 0);
        doText("fix0");
        both("change", 2, random.nextInt(2));
        doText("fix0;set:aabbccddeeffgghhiijjkkll");
        goOnWith(letter);
    }

    private void goOnWith(int letter) {
        for (int i = 0; i < 150; i++) {
            call(random.nextInt(40));
            both("ifSet", letter, 20);
            compareState(i % 16 == 0);
        }
    }

    private int letter() {
        return random.nextInt(20) == 0 ? FAR[random.nextInt(FAR.length)]
            : random.nextInt(4) == 0 ? random.nextInt(12) : random.nextInt(liked);
    }

    private void call(int which) {
        switch (which) {
            case 0: both("idle", random.nextInt(8) == 0 ? random.nextInt(110) - 5 : 1 + random.nextInt(12), 0); break;
            case 1: case 2: case 3: both("fix", random.nextInt(20) == 0 ? letter() : random.nextInt(12), 0); break;
            case 4: if (random.nextInt(3) == 0) { both("back", 0, 0); } break;
            case 5: case 6: case 7: case 8: both("swap", letter(), letter()); break;
            case 9: both("change", random.nextInt(5) - 1, random.nextInt(12) - 1); break;
            case 10: both("change", 0, 15 + random.nextInt(110)); break;
            case 11: both("change", 0, 120); break;
            case 12: both("change", 2, random.nextInt(2)); break;
            case 13: both("undo", 0, 0); break;
            case 14: if (random.nextInt(3) == 0) { both("undo", 0, 0); both("undo", 0, 0); } break;
            case 15: both("keep", 0, 0); break;
            case 16: if (random.nextInt(3) == 0) { both("restore", 0, 0); } break;
            case 17: case 18: case 19: case 20: work(); break;
            case 21: spell(goodPart()); break;
            case 22: both("append", random.nextInt(130), 0); break;
            case 23: both("clearBuffer", 0, 0); break;
            case 24: both("ifSet", letter(), random.nextInt(24) - 1); break;
            default: both("set", letter(), 0); break;
        }
    }

    private String goodPart() {
        char one = (char) ('a' + random.nextInt(liked));
        char two = (char) ('a' + random.nextInt(12));
        switch (random.nextInt(6)) {
            case 0: return "set:" + one;
            case 1: return "set:" + one + one + one + two + one;
            case 2: return "fix" + random.nextInt(random.nextInt(3) == 0 ? 41 : 8);
            case 3: return random.nextInt(3) == 0 ? "back" : "set:" + two + two;
            case 4: return "idle" + (1 + random.nextInt(random.nextInt(2) == 0 ? 9 : 99));
            default: return "swap:" + one + two;
        }
    }

    private void work() {
        both("clearBuffer", 0, 0);
        StringBuilder text = new StringBuilder(goodPart());
        for (int i = random.nextInt(5); i > 0; i--) {
            text.append(';').append(goodPart());
        }
        if (random.nextInt(3) == 0) {
            String signs = ";;:abcefiklnopstwx0123456789m`~";
            text.setCharAt(random.nextInt(text.length()), signs.charAt(random.nextInt(signs.length())));
        }
        spell(text.toString());
        both("firstError", 0, 0);
        both("work", 0, 0);
        noteReason();
    }

    private void doText(String text) {
        both("clearBuffer", 0, 0);
        spell(text);
        both("work", 0, 0);
        noteReason();
    }

    private void noteReason() {
        if (due.stopped(1) > 0) {
            reasons |= 1 << due.stopped(1);
        }
    }

    private void spell(String text) {
        for (char c : text.toCharArray()) {
            both("append", c, 0);
        }
    }

    private void compareState(boolean withEverything) {
        checks.same(run + " digest()", due.digest(), got.digest());
        if (!withEverything) {
            return;
        }
        for (int what = -1; what <= 18; what++) {
            both("count", what, 0);
        }
        for (int box = -1; box <= 12; box++) {
            for (int what = -1; what <= 7; what++) {
                both("box", box, what);
            }
            both("whyNot", box, 0);
            for (int deep = -1; deep <= 21; deep++) {
                both("type", box, deep);
            }
        }
        for (int place = -1; place <= due.count(0); place++) {
            for (int what = -1; what <= 4; what++) {
                both("line", place, what);
            }
        }
        for (int index = -1; index <= 2 * due.count(0) + 1; index++) {
            both("told", index, 0);
        }
        both("stopped", 0, 0);
        both("stopped", 1, 0);
        both("sortedIn", 0, 0);
        both("wrongThen", 0, 0);
        both("rightShare", 0, 0);
        both("firstError", 0, 0);
        for (int far : FAR) {
            looksOnly(far, 0);
            looksOnly(0, far);
        }
    }

    private void looksOnly(int a, int b) {
        both("box", a, b);
        both("type", a, b);
        both("line", a, b);
        both("count", a, b);
        both("told", a, b);
        both("stopped", a, b);
        both("whyNot", a, b);
        both("ifSet", a, b);
    }

    private void both(String name, int a, int b) {
        String want = Checks.answerOf(() -> modelAnswer(name, a, b));
        String have = Checks.answerOf(() -> answer(name, a, b));
        checks.same(run + " " + name + "(" + a + ", " + b + ")", want, have);
    }

    private Object answer(String name, int a, int b) {
        switch (name) {
            case "set": return got.set(a);
            case "idle": return got.idle(a);
            case "fix": return got.fix(a);
            case "back": return got.back();
            case "swap": return got.swap(a, b);
            case "change": return got.change(a, b);
            case "append": return got.append(a);
            case "clearBuffer": return got.clearBuffer();
            case "firstError": return got.firstError();
            case "work": return got.work();
            case "stopped": return got.stopped(a);
            case "told": return got.told(a);
            case "undo": return got.undo();
            case "keep": return got.keep();
            case "restore": return got.restore();
            case "box": return got.box(a, b);
            case "type": return got.type(a, b);
            case "line": return got.line(a, b);
            case "count": return got.count(a);
            case "whyNot": return got.whyNot(a);
            case "ifSet": return got.ifSet(a, b);
            case "sortedIn": return got.sortedIn();
            case "wrongThen": return got.wrongThen();
            case "rightShare": return got.rightShare();
            default: throw new AssertionError(name);
        }
    }

    private Object modelAnswer(String name, int a, int b) {
        switch (name) {
            case "set": return due.set(a);
            case "idle": return due.idle(a);
            case "fix": return due.fix(a);
            case "back": return due.back();
            case "swap": return due.swap(a, b);
            case "change": return due.change(a, b);
            case "append": return due.append(a);
            case "clearBuffer": return due.clearBuffer();
            case "firstError": return due.firstError();
            case "work": return due.work();
            case "stopped": return due.stopped(a);
            case "told": return due.told(a);
            case "undo": return due.undo();
            case "keep": return due.keep();
            case "restore": return due.restore();
            case "box": return due.box(a, b);
            case "type": return due.type(a, b);
            case "line": return due.line(a, b);
            case "count": return due.count(a);
            case "whyNot": return due.whyNot(a);
            case "ifSet": return due.ifSet(a, b);
            case "sortedIn": return due.sortedIn();
            case "wrongThen": return due.wrongThen();
            case "rightShare": return due.rightShare();
            default: throw new AssertionError(name);
        }
    }
}
