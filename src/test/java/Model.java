import java.util.ArrayList;
import java.util.List;
import java.util.regex.Matcher;
import java.util.regex.Pattern;

/** The document once more, written apart from the class with lists, copies and a regular expression. */
final class Model {
    private static final String PART = "(?:set:[a-l]+|fix(?:[0-9]|[1-3][0-9]|40)|back|idle[1-9][0-9]?|swap:[a-l]{2})";
    private static final Pattern WORKS = Pattern.compile(PART + "(?:;" + PART + ")*");

    private static final class Memory {
        final List<List<Integer>> boxes = new ArrayList<>();
        final List<Integer> types = new ArrayList<>();
        final List<Integer> letters = new ArrayList<>();
        int measure = 60;
        int beatsBehind = 1;
        int byText = 1;
        int hand = -1;
        int at = 0;
        int set = 0;
        int moved = 0;
        int beats = 0;
        int fixed = 0;
        int returned = 0;
        int stopPart = -1;
        int stopReason = -1;

        Memory copy() {
            Memory m = new Memory();
            for (List<Integer> box : boxes) {
                m.boxes.add(new ArrayList<>(box));
            }
            m.types.addAll(types);
            m.letters.addAll(letters);
            m.measure = measure;
            m.beatsBehind = beatsBehind;
            m.byText = byText;
            m.hand = hand;
            m.at = at;
            m.set = set;
            m.moved = moved;
            m.beats = beats;
            m.fixed = fixed;
            m.returned = returned;
            m.stopPart = stopPart;
            m.stopReason = stopReason;
            return m;
        }
    }

    private Memory now = new Memory();
    private final List<Memory> saved = new ArrayList<>();
    private Memory snapshot = null;
    private String buffer = "";

    Model() {
        for (int k = 0; k < 12; k++) {
            List<Integer> box = new ArrayList<>();
            for (int i = 0; i < 6; i++) {
                box.add(k);
            }
            now.boxes.add(box);
        }
    }

    private void save() {
        saved.add(now.copy());
        if (saved.size() > 6) {
            saved.remove(0);
        }
    }

    private static void index(boolean good) {
        if (!good) {
            throw new IndexOutOfBoundsException();
        }
    }

    private static void argument(boolean good) {
        if (!good) {
            throw new IllegalArgumentException();
        }
    }

    private static void able(boolean good) {
        if (!good) {
            throw new IllegalStateException();
        }
    }

    private static int top(List<Integer> box) {
        return box.isEmpty() ? -1 : box.get(box.size() - 1);
    }

    private static int pop(List<Integer> box) {
        return box.remove(box.size() - 1).intValue();
    }

    private static int width(List<Integer> types) {
        int width = Math.max(0, types.size() - 1);
        for (int sort : types) {
            width += sort % 3 + 2;
        }
        return width;
    }

    private static int errors(Memory m) {
        int errors = 0;
        for (int i = 0; i < m.types.size(); i++) {
            errors += m.types.get(i).equals(m.letters.get(i)) ? 0 : 1;
        }
        return errors;
    }

    private static int wrong(Memory m) {
        int wrong = 0;
        for (int k = 0; k < 12; k++) {
            for (int sort : m.boxes.get(k)) {
                wrong += sort == k ? 0 : 1;
            }
        }
        return wrong;
    }

    private static boolean beat(Memory m) {
        m.beats++;
        int sort = top(m.boxes.get(m.at));
        if (m.hand != m.at && sort >= 0 && sort != m.at && sort != m.hand && m.boxes.get(sort).size() < 20) {
            m.boxes.get(sort).add(pop(m.boxes.get(m.at)));
            m.moved++;
            return true;
        }
        m.at = (m.at + 1) % 12;
        return false;
    }

    private static int reasonToSet(Memory m, int letter) {
        if (m.boxes.get(letter).isEmpty()) {
            return 1;
        }
        List<Integer> longer = new ArrayList<>(m.types);
        longer.add(top(m.boxes.get(letter)));
        return width(longer) > m.measure ? 2 : 0;
    }

    private static int doSet(Memory m, int letter) {
        int sort = pop(m.boxes.get(letter));
        m.types.add(sort);
        m.letters.add(letter);
        m.hand = letter;
        m.set++;
        for (int i = 0; i < m.beatsBehind; i++) {
            beat(m);
        }
        return sort;
    }

    private static int doIdle(Memory m, int beats) {
        m.hand = -1;
        int moves = 0;
        for (int i = 0; i < beats; i++) {
            moves += beat(m) ? 1 : 0;
        }
        return moves;
    }

    private static int target(Memory m, int place) {
        return m.byText == 1 ? m.letters.get(place) : m.types.get(place);
    }

    private static int reasonToFix(Memory m, int place) {
        if (m.types.get(place).equals(m.letters.get(place))) {
            return 3;
        }
        if (!m.boxes.get(m.letters.get(place)).contains(m.letters.get(place))) {
            return 4;
        }
        return m.boxes.get(target(m, place)).size() >= 20 ? 5 : 0;
    }

    private static void doFix(Memory m, int place) {
        m.hand = -1;
        int letter = m.letters.get(place);
        m.boxes.get(target(m, place)).add(m.types.get(place));
        List<Integer> box = m.boxes.get(letter);
        box.remove(box.lastIndexOf(letter));
        m.types.set(place, letter);
        m.fixed++;
    }

    private static int reasonToReturn(Memory m) {
        int[] sizes = new int[12];
        for (int k = 0; k < 12; k++) {
            sizes[k] = m.boxes.get(k).size();
        }
        for (int i = 0; i < m.types.size(); i++) {
            sizes[target(m, i)]++;
        }
        for (int size : sizes) {
            if (size > 20) {
                return 6;
            }
        }
        return 0;
    }

    private static void doReturn(Memory m) {
        m.hand = -1;
        for (int i = m.types.size() - 1; i >= 0; i--) {
            m.boxes.get(target(m, i)).add(m.types.get(i));
        }
        m.types.clear();
        m.letters.clear();
        m.returned++;
    }

    private static void doSwap(Memory m, int a, int b) {
        m.hand = -1;
        List<Integer> one = m.boxes.get(a);
        List<Integer> two = m.boxes.get(b);
        if (a == b || one.isEmpty() && two.isEmpty()) {
            return;
        }
        if (one.isEmpty()) {
            one.add(pop(two));
        } else if (two.isEmpty()) {
            two.add(pop(one));
        } else {
            int upmost = pop(one);
            one.add(pop(two));
            two.add(upmost);
        }
    }

    int set(int letter) {
        index(letter >= 0 && letter <= 11);
        able(reasonToSet(now, letter) == 0);
        save();
        return doSet(now, letter);
    }

    int idle(int beats) {
        argument(beats >= 1 && beats <= 99);
        save();
        return doIdle(now, beats);
    }

    int fix(int place) {
        index(place >= 0 && place < now.types.size());
        able(reasonToFix(now, place) == 0);
        save();
        doFix(now, place);
        return errors(now);
    }

    int back() {
        able(reasonToReturn(now) == 0);
        save();
        doReturn(now);
        return wrong(now);
    }

    int swap(int a, int b) {
        index(a >= 0 && a <= 11 && b >= 0 && b <= 11);
        save();
        doSwap(now, a, b);
        return wrong(now);
    }

    int change(int setting, int value) {
        index(setting >= 0 && setting <= 2);
        argument(setting == 0 ? value >= 20 && value <= 120 : value >= 0 && value <= (setting == 1 ? 9 : 1));
        save();
        now.hand = -1;
        int previous = setting == 0 ? now.measure : setting == 1 ? now.beatsBehind : now.byText;
        if (setting == 0) {
            now.measure = value;
        } else if (setting == 1) {
            now.beatsBehind = value;
        } else {
            now.byText = value;
        }
        return previous;
    }

    int append(int code) {
        argument(code >= 33 && code <= 126);
        able(buffer.length() < 60);
        buffer = buffer + (char) code;
        return buffer.length();
    }

    int clearBuffer() {
        int length = buffer.length();
        buffer = "";
        return length;
    }

    int firstError() {
        for (int length = 1; length <= buffer.length(); length++) {
            Matcher matcher = WORKS.matcher(buffer.substring(0, length));
            if (!matcher.matches() && !matcher.hitEnd()) {
                return length - 1;
            }
        }
        return buffer.length();
    }

    int work() {
        argument(WORKS.matcher(buffer).matches());
        save();
        String[] parts = buffer.split(";");
        buffer = "";
        for (int i = 0; i < parts.length; i++) {
            int reason = doPart(now, parts[i]);
            if (reason != 0) {
                now.stopPart = i;
                now.stopReason = reason;
                return i;
            }
        }
        now.stopPart = -1;
        now.stopReason = -1;
        return parts.length;
    }

    private static int doPart(Memory m, String part) {
        if (part.startsWith("set:")) {
            for (char c : part.substring(4).toCharArray()) {
                int reason = reasonToSet(m, c - 'a');
                if (reason != 0) {
                    return reason;
                }
                doSet(m, c - 'a');
            }
            return 0;
        }
        if (part.startsWith("swap:")) {
            doSwap(m, part.charAt(5) - 'a', part.charAt(6) - 'a');
            return 0;
        }
        if (part.startsWith("idle")) {
            doIdle(m, Integer.parseInt(part.substring(4)));
            return 0;
        }
        if (part.startsWith("fix")) {
            int place = Integer.parseInt(part.substring(3));
            int reason = place >= m.types.size() ? 7 : reasonToFix(m, place);
            if (reason == 0) {
                doFix(m, place);
            }
            return reason;
        }
        int reason = reasonToReturn(m);
        if (reason == 0) {
            doReturn(m);
        }
        return reason;
    }

    int stopped(int what) {
        argument(what == 0 || what == 1);
        return what == 0 ? now.stopPart : now.stopReason;
    }

    private String toldWhole() {
        StringBuilder text = new StringBuilder();
        for (int i = 0; i < now.types.size(); i++) {
            text.append((char) ('a' + now.types.get(i)));
            if (!now.types.get(i).equals(now.letters.get(i))) {
                text.append('!');
            }
        }
        return text.toString();
    }

    int told(int index) {
        argument(index >= 0);
        String text = toldWhole();
        return index < text.length() ? text.charAt(index) : -1;
    }

    int undo() {
        able(!saved.isEmpty());
        now = saved.remove(saved.size() - 1);
        return saved.size();
    }

    int keep() {
        snapshot = now.copy();
        return now.types.size();
    }

    int restore() {
        able(snapshot != null);
        save();
        now = snapshot.copy();
        return now.types.size();
    }

    int box(int box, int what) {
        index(box >= 0 && box <= 11);
        argument(what >= 0 && what <= 6);
        int elsewhere = 0;
        for (int k = 0; k < 12; k++) {
            for (int sort : now.boxes.get(k)) {
                elsewhere += k != box && sort == box ? 1 : 0;
            }
        }
        int wrong = 0;
        for (int sort : now.boxes.get(box)) {
            wrong += sort != box ? 1 : 0;
        }
        int[] numbers = {now.boxes.get(box).size(), wrong, top(now.boxes.get(box)), box % 3 + 2,
            now.hand == box ? 1 : 0, now.at == box ? 1 : 0, elsewhere};
        return numbers[what];
    }

    int type(int box, int deep) {
        index(box >= 0 && box <= 11);
        argument(deep >= 0);
        List<Integer> types = now.boxes.get(box);
        return deep < types.size() ? types.get(types.size() - 1 - deep) : -1;
    }

    int line(int place, int what) {
        index(place >= 0 && place < now.types.size());
        argument(what >= 0 && what <= 3);
        int[] numbers = {now.types.get(place), now.letters.get(place),
            now.types.get(place).equals(now.letters.get(place)) ? 0 : 1, reasonToFix(now, place)};
        return numbers[what];
    }

    int count(int what) {
        argument(what >= 0 && what <= 17);
        int inBoxes = 0;
        int second = 0;
        for (int k = 0; k < 12; k++) {
            inBoxes += now.boxes.get(k).size();
            second += 6;
            for (int sort : now.boxes.get(k)) {
                second -= sort == k ? 1 : 0;
            }
        }
        second -= now.types.size();
        int[] numbers = {now.types.size(), width(now.types), errors(now), inBoxes, wrong(now), second,
            wrong(now) == 0 ? 1 : 0, now.hand, now.at, now.set, now.moved, now.beats, now.fixed, now.returned,
            now.measure, now.beatsBehind, now.byText, saved.size()};
        return numbers[what];
    }

    int whyNot(int letter) {
        index(letter >= 0 && letter <= 11);
        return reasonToSet(now, letter);
    }

    int ifSet(int letter, int times) {
        index(letter >= 0 && letter <= 11);
        argument(times >= 1 && times <= 20);
        Memory then = now.copy();
        for (int i = 0; i < times && reasonToSet(then, letter) == 0; i++) {
            doSet(then, letter);
        }
        return errors(then) - errors(now);
    }

    private static int sortWhole(Memory m) {
        m.hand = -1;
        int last = 0;
        int beats = 0;
        int quiet = 0;
        while (quiet < 12) {
            beats++;
            if (beat(m)) {
                last = beats;
                quiet = 0;
            } else {
                quiet++;
            }
        }
        return last;
    }

    int sortedIn() {
        return sortWhole(now.copy());
    }

    int wrongThen() {
        Memory then = now.copy();
        sortWhole(then);
        return wrong(then);
    }

    double rightShare() {
        int places = now.types.size();
        return places == 0 ? 1.0 : (double) (places - errors(now)) / places;
    }

    long digest() {
        List<Long> values = new ArrayList<>();
        for (int what = 0; what <= 17; what++) {
            values.add((long) count(what));
        }
        for (int k = 0; k < 12; k++) {
            for (int what = 0; what <= 6; what++) {
                values.add((long) box(k, what));
            }
            values.add((long) whyNot(k));
            values.add((long) ifSet(k, 3));
            for (int deep = 0; type(k, deep) != -1; deep++) {
                values.add((long) type(k, deep));
            }
        }
        for (int place = 0; place < now.types.size(); place++) {
            for (int what = 0; what <= 3; what++) {
                values.add((long) line(place, what));
            }
        }
        for (char c : toldWhole().toCharArray()) {
            values.add((long) c);
        }
        values.add((long) stopped(0));
        values.add((long) stopped(1));
        values.add((long) sortedIn());
        values.add((long) wrongThen());
        values.add(Double.doubleToLongBits(rightShare()));
        values.add((long) buffer.length());
        for (char c : buffer.toCharArray()) {
            values.add((long) c);
        }
        long hash = 3863;
        for (long value : values) {
            hash = 31 * hash + value;
        }
        return hash;
    }
}
