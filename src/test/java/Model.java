import java.util.ArrayDeque;
import java.util.ArrayList;
import java.util.Deque;
import java.util.List;
import java.util.regex.Matcher;
import java.util.regex.Pattern;

/** The document once more, in the plainest way, with lists and copies: random runs are compared with it. */
final class Model {
    static final int NO_SUCH = -1, BAD_VALUE = -2, BAD_TEXT = -3, TOO_MANY = -4, NOT_POSSIBLE = -5, NONE = -6;

    private static final String NUMBER = "(?:0|[1-9][0-9]?)";
    private static final String ORDER = "(?:sN:N,N,N|lN[rgb]=N|wN[rgb][+-]N|mN>N|p|cN|a|k)".replace("N", NUMBER);
    private static final Pattern TEXT = Pattern.compile(ORDER + "(?:;" + ORDER + ")*");
    private static final Pattern NUMBERS = Pattern.compile("[0-9]+");

    private static final class Shot {
        int feet;
        int[] density = new int[3];
        int[] wish = new int[3];
        int[] light = {25, 25, 25};
        int[] answer = null;

        Shot copy() {
            Shot copy = new Shot();
            copy.feet = feet;
            copy.density = density.clone();
            copy.wish = wish.clone();
            copy.light = light.clone();
            copy.answer = answer == null ? null : answer.clone();
            return copy;
        }
    }

    private static final class State {
        final List<Shot> shots = new ArrayList<>();
        int[] settings = {1, 1, 8, 10};
        int[] ages = new int[3];
        int[] trims = new int[3];
        int prints;
        int points;

        State copy() {
            State copy = new State();
            for (Shot shot : shots) {
                copy.shots.add(shot.copy());
            }
            copy.settings = settings.clone();
            copy.ages = ages.clone();
            copy.trims = trims.clone();
            copy.prints = prints;
            copy.points = points;
            return copy;
        }
    }

    private State now = new State();
    private final State[] slots = new State[2];
    private final Deque<State> history = new ArrayDeque<>();
    private String pad = "";
    private boolean inText = false;

    private boolean missing(int place) {
        return place < 0 || place >= now.shots.size();
    }

    private static boolean out(int value, int least, int most) {
        return value < least || value > most;
    }

    private void record() {
        if (inText) {
            return;
        }
        history.addLast(now.copy());
        if (history.size() > 6) {
            history.removeFirst();
        }
    }

    private static int loss(State state, int colour) {
        return state.ages[colour] * state.settings[3] / 100;
    }

    private static int prints(State state, Shot shot, int colour) {
        int sum = 25 + shot.light[colour] + state.trims[colour] - loss(state, colour) - shot.density[colour];
        return sum < 0 ? 0 : Math.min(sum, 50);
    }

    private static int off(State state, Shot shot, int colour) {
        return prints(state, shot, colour) - 25 - shot.wish[colour];
    }

    private static boolean bad(State state, Shot shot) {
        boolean bad = false;
        for (int c = 0; c < 3 && shot.answer != null; c++) {
            bad |= Math.abs(shot.answer[c]) > state.settings[1];
        }
        return bad;
    }

    private static boolean jump(State state, int place) {
        boolean jump = false;
        for (int c = 0; c < 3 && place + 1 < state.shots.size(); c++) {
            int one = prints(state, state.shots.get(place), c);
            int other = prints(state, state.shots.get(place + 1), c);
            jump |= Math.max(one, other) - Math.min(one, other) > state.settings[2];
        }
        return jump;
    }

    private static int feet(State state) {
        return state.shots.stream().mapToInt(shot -> shot.feet).sum();
    }

    private static int hours(State state) {
        return (int) Math.ceil(feet(state) / 100.0);
    }

    private static int printIt(State state) {
        for (Shot shot : state.shots) {
            shot.answer = new int[] {off(state, shot, 0), off(state, shot, 1), off(state, shot, 2)};
        }
        for (int c = 0; c < 3; c++) {
            state.ages[c] += hours(state);
        }
        state.prints++;
        return (int) state.shots.stream().filter(shot -> bad(state, shot)).count();
    }

    private static int correctIt(State state, Shot shot) {
        int points = 0;
        for (int c = 0; c < 3; c++) {
            int size = Math.abs(shot.answer[c]);
            while (size % state.settings[0] != 0) {
                size--;
            }
            int light = shot.light[c] + (shot.answer[c] > 0 ? -size : size);
            light = light < 0 ? 0 : light > 50 ? 50 : light;
            points += Math.abs(light - shot.light[c]);
            shot.light[c] = light;
        }
        shot.answer = null;
        state.points += points;
        return points;
    }

    private static int correctBad(State state) {
        int corrected = 0;
        for (Shot shot : state.shots) {
            if (bad(state, shot)) {
                correctIt(state, shot);
                corrected++;
            }
        }
        return corrected;
    }

    int set(int setting, int value) {
        int[][] ranges = {{1, 5}, {0, 9}, {1, 40}, {0, 50}};
        if (out(setting, 0, 3) || out(value, ranges[setting][0], ranges[setting][1])) {
            return BAD_VALUE;
        }
        record();
        int previous = now.settings[setting];
        now.settings[setting] = value;
        return previous;
    }

    int shot(int place, int feet, int red, int green, int blue) {
        if (out(place, 0, now.shots.size())) {
            return NO_SUCH;
        }
        if (out(feet, 1, 99) || out(red, 0, 50) || out(green, 0, 50) || out(blue, 0, 50)) {
            return BAD_VALUE;
        }
        if (now.shots.size() == 20) {
            return TOO_MANY;
        }
        record();
        Shot shot = new Shot();
        shot.feet = feet;
        shot.density = new int[] {red, green, blue};
        now.shots.add(place, shot);
        return now.shots.size();
    }

    int takeOut(int place) {
        if (missing(place)) {
            return NO_SUCH;
        }
        record();
        now.shots.remove(place);
        return now.shots.size();
    }

    int light(int place, int colour, int points) {
        if (missing(place)) {
            return NO_SUCH;
        }
        if (out(colour, 0, 2) || out(points, 0, 50)) {
            return BAD_VALUE;
        }
        record();
        int previous = now.shots.get(place).light[colour];
        now.shots.get(place).light[colour] = points;
        return previous;
    }

    int wish(int place, int colour, int points) {
        if (missing(place)) {
            return NO_SUCH;
        }
        if (out(colour, 0, 2) || out(points, -10, 10)) {
            return BAD_VALUE;
        }
        record();
        int previous = now.shots.get(place).wish[colour];
        now.shots.get(place).wish[colour] = points;
        return previous + 10;
    }

    int move(int place, int to) {
        if (missing(place) || missing(to)) {
            return NO_SUCH;
        }
        record();
        now.shots.add(to, now.shots.remove(place));
        return Math.abs(place - to);
    }

    int split(int place, int feet) {
        if (missing(place)) {
            return NO_SUCH;
        }
        if (out(feet, 1, 98)) {
            return BAD_VALUE;
        }
        if (now.shots.get(place).feet <= feet) {
            return NOT_POSSIBLE;
        }
        if (now.shots.size() == 20) {
            return TOO_MANY;
        }
        record();
        Shot first = now.shots.get(place);
        first.answer = null;
        Shot second = first.copy();
        second.feet = first.feet - feet;
        first.feet = feet;
        now.shots.add(place + 1, second);
        return now.shots.size();
    }

    int join(int place) {
        if (missing(place) || missing(place + 1)) {
            return NO_SUCH;
        }
        Shot first = now.shots.get(place);
        Shot second = now.shots.get(place + 1);
        if (first.feet + second.feet > 99 || !java.util.Arrays.equals(first.density, second.density)) {
            return NOT_POSSIBLE;
        }
        record();
        first = now.shots.get(place);
        first.feet += now.shots.remove(place + 1).feet;
        first.answer = null;
        return first.feet;
    }

    int print() {
        int oldest = Math.max(now.ages[0], Math.max(now.ages[1], now.ages[2]));
        if (now.shots.isEmpty() || oldest + hours(now) > 999) {
            return NOT_POSSIBLE;
        }
        record();
        return printIt(now);
    }

    int correct(int place) {
        if (missing(place)) {
            return NO_SUCH;
        }
        if (now.shots.get(place).answer == null) {
            return NOT_POSSIBLE;
        }
        record();
        return correctIt(now, now.shots.get(place));
    }

    int correctAll() {
        record();
        return correctBad(now);
    }

    int card() {
        record();
        for (int c = 0; c < 3; c++) {
            now.trims[c] = Math.min(20, loss(now, c));
        }
        return now.trims[0] + now.trims[1] + now.trims[2];
    }

    int trim(int colour, int points) {
        if (out(colour, 0, 2) || out(points, -20, 20)) {
            return BAD_VALUE;
        }
        record();
        int previous = now.trims[colour];
        now.trims[colour] = points;
        return previous + 20;
    }

    int lamp(int colour) {
        if (out(colour, 0, 2)) {
            return BAD_VALUE;
        }
        record();
        int previous = now.ages[colour];
        now.ages[colour] = 0;
        return previous;
    }

    int of(int place, int what) {
        if (missing(place)) {
            return NO_SUCH;
        }
        if (out(what, 0, 4)) {
            return BAD_VALUE;
        }
        Shot shot = now.shots.get(place);
        int begin = now.shots.subList(0, place).stream().mapToInt(one -> one.feet).sum();
        return new int[] {shot.feet, begin, shot.answer != null ? 1 : 0, bad(now, shot) ? 1 : 0,
                jump(now, place) ? 1 : 0}[what];
    }

    int inColour(int place, int colour, int what) {
        if (missing(place)) {
            return NO_SUCH;
        }
        if (out(colour, 0, 2) || out(what, 0, 5)) {
            return BAD_VALUE;
        }
        Shot shot = now.shots.get(place);
        return new int[] {shot.density[colour], shot.wish[colour] + 10, shot.light[colour], prints(now, shot, colour),
                off(now, shot, colour) + 100, shot.answer == null ? NONE : shot.answer[colour] + 100}[what];
    }

    int ofLamp(int colour, int what) {
        if (out(colour, 0, 2) || out(what, 0, 2)) {
            return BAD_VALUE;
        }
        return new int[] {now.ages[colour], loss(now, colour), now.trims[colour] + 20}[what];
    }

    int count(int what) {
        if (out(what, 0, 13)) {
            return BAD_VALUE;
        }
        int bad = 0, answered = 0, jumps = 0, off = 0;
        for (int place = 0; place < now.shots.size(); place++) {
            Shot shot = now.shots.get(place);
            bad += bad(now, shot) ? 1 << place : 0;
            answered += shot.answer != null ? 1 << place : 0;
            jumps += jump(now, place) ? 1 << place : 0;
            boolean isOff = false;
            for (int c = 0; c < 3; c++) {
                isOff |= Math.abs(off(now, shot, c)) > now.settings[1];
            }
            off += isOff ? 1 << place : 0;
        }
        return new int[] {now.shots.size(), feet(now), now.prints, bad, answered, jumps, now.points, off,
                now.settings[0], now.settings[1], now.settings[2], now.settings[3], pad.length(),
                history.size()}[what];
    }

    private static int needed(State state, int place, int colour) {
        for (int light = 0; light <= 50; light++) {
            Shot shot = state.shots.get(place).copy();
            shot.light[colour] = light;
            if (off(state, shot, colour) == 0) {
                return light;
            }
        }
        return NONE;
    }

    int needs(int place, int colour) {
        if (missing(place)) {
            return NO_SUCH;
        }
        return out(colour, 0, 2) ? BAD_VALUE : needed(now, place, colour);
    }

    int ifLight(int place, int colour, int points) {
        if (missing(place)) {
            return NO_SUCH;
        }
        if (out(colour, 0, 2) || out(points, 0, 50)) {
            return BAD_VALUE;
        }
        Shot shot = now.shots.get(place).copy();
        shot.light[colour] = points;
        return prints(now, shot, colour);
    }

    int lasts(int colour) {
        if (out(colour, 0, 2)) {
            return BAD_VALUE;
        }
        State later = now.copy();
        for (int hours = 0; hours <= 500; hours++) {
            for (int place = 0; place < later.shots.size(); place++) {
                if (needed(later, place, colour) == NONE) {
                    return hours;
                }
            }
            later.ages[colour]++;
        }
        return NONE;
    }

    int bestTrim(int colour, int what) {
        if (out(colour, 0, 2) || out(what, 0, 1)) {
            return BAD_VALUE;
        }
        List<int[]> trims = new ArrayList<>();
        for (int trim = -20; trim <= 20; trim++) {
            State other = now.copy();
            other.trims[colour] = trim;
            int sum = other.shots.stream().mapToInt(shot -> Math.abs(off(other, shot, colour))).sum();
            trims.add(new int[] {sum, Math.abs(trim), trim > 0 ? 0 : 1, trim});
        }
        trims.sort(java.util.Arrays::compare);
        return what == 0 ? trims.get(0)[3] + 20 : trims.get(0)[0];
    }

    int printsNeeded() {
        if (now.shots.isEmpty()) {
            return NOT_POSSIBLE;
        }
        State other = now.copy();
        for (int prints = 1; prints <= 20; prints++) {
            if (printIt(other) == 0) {
                return prints;
            }
            correctBad(other);
        }
        return NONE;
    }

    int put(long characters) {
        StringBuilder text = new StringBuilder();
        boolean over = false;
        for (int shift = 56; shift >= 0; shift -= 8) {
            int code = (int) (characters >>> shift & 255);
            if (code == 0 && text.length() == 0) {
                continue;
            }
            over |= out(code, 33, 126);
            text.append((char) code);
        }
        if (over || text.length() == 0) {
            return BAD_VALUE;
        }
        if (pad.length() + text.length() > 80) {
            return TOO_MANY;
        }
        pad += text;
        return pad.length();
    }

    int wipe() {
        int length = pad.length();
        pad = "";
        return length;
    }

    int fault() {
        for (int length = 0; length <= pad.length(); length++) {
            Matcher matcher = TEXT.matcher(pad.substring(0, length));
            boolean whole = matcher.matches();
            if (!whole && !matcher.hitEnd()) {
                return length - 1;
            }
            if (length == pad.length()) {
                return whole ? NONE : length;
            }
        }
        return NONE;
    }

    int carryOut() {
        if (fault() != NONE) {
            return BAD_TEXT;
        }
        record();
        inText = true;
        int done = 0;
        for (String order : pad.split(";")) {
            if (carryOut(order) < 0) {
                break;
            }
            done++;
        }
        inText = false;
        pad = "";
        return done;
    }

    private int carryOut(String order) {
        int[] n = NUMBERS.matcher(order).results().mapToInt(found -> Integer.parseInt(found.group())).toArray();
        int colour = order.indexOf('r') > 0 ? 0 : order.indexOf('g') > 0 ? 1 : 2;
        switch (order.charAt(0)) {
            case 's':
                return shot(now.shots.size(), n[0], n[1], n[2], n[3]);
            case 'l':
                return light(n[0], colour, n[1]);
            case 'w':
                return wish(n[0], colour, order.indexOf('-') > 0 ? -n[1] : n[1]);
            case 'm':
                return move(n[0], n[1]);
            case 'p':
                return print();
            case 'c':
                return correct(n[0]);
            case 'a':
                return correctAll();
            default:
                return card();
        }
    }

    int undo() {
        if (history.isEmpty()) {
            return NOT_POSSIBLE;
        }
        now = history.removeLast();
        return history.size();
    }

    int save(int slot) {
        if (out(slot, 0, 1)) {
            return BAD_VALUE;
        }
        slots[slot] = now.copy();
        return now.shots.size();
    }

    int restore(int slot) {
        if (out(slot, 0, 1)) {
            return BAD_VALUE;
        }
        if (slots[slot] == null) {
            return NOT_POSSIBLE;
        }
        record();
        now = slots[slot].copy();
        return now.shots.size();
    }
}
