import java.util.function.ToIntFunction;

/** Promises 16 to 19, sentence by sentence: just inside and just outside of every boundary; and nothing changes. */
public final class EdgesOfViewsTest {
    private static final int NO_SUCH = TimingLights.NO_SUCH, BAD_VALUE = TimingLights.BAD_VALUE;
    private static final int NONE = TimingLights.NONE;
    private static final int[] WRONG_COLOURS = Reels.outside(0, 2);
    private static final int[] WRONG_PLACES = Reels.outside(0, 3);

    public static void main(String[] args) {
        ofRefused();
        ofFirstAndLastShot();
        ofAnswer();
        ofBad();
        ofJump();
        inColourRefused();
        inColourBounds();
        inColourAnswer();
        ofLampRefused();
        ofLampBounds();
        countRefused();
        countShotsAndFeet();
        countPrints();
        countSets();
        countPoints();
        countOff();
        countSettings();
        countPad();
        countChanges();
        Check.end();
    }

    private static void unchanged(String name, ToIntFunction<TimingLights> call, int due) {
        Twins.unchanged(name, Reels::rich, call, due);
    }

    // ---- 16: of

    /** "NO_SUCH if there is no such shot; BAD_VALUE if what is out of range" */
    private static void ofRefused() {
        for (int place : WRONG_PLACES) {
            unchanged("16: place " + place, x -> x.of(place, 0), NO_SUCH);
        }
        for (int what : Reels.outside(0, 4)) {
            unchanged("16: what " + what, x -> x.of(0, what), BAD_VALUE);
        }
        TimingLights empty = new TimingLights();
        TimingLights full = Check.reel(20, 10);
        for (int what = 0; what <= 4; what++) {
            Check.due("16: no shot", empty.of(0, what), NO_SUCH);
            Check.due("16: place -1 of 20", full.of(-1, what), NO_SUCH);
            Check.due("16: place 20 of 20", full.of(20, what), NO_SUCH);
        }
    }

    /** "0 its length, 1 the foot at which it begins" */
    private static void ofFirstAndLastShot() {
        TimingLights x = new TimingLights();
        int feet = 0;
        for (int place = 0; place < 20; place++) {
            int length = place % 2 == 0 ? 99 - place : 1 + place;
            x.shot(place, length, 25, 25, 25);
            Check.due("16: begins", x.of(place, 1), feet);
            Check.due("16: length", x.of(place, 0), length);
            feet += length;
        }
        Check.due("16: the first begins at 0", x.of(0, 1), 0);
        Check.due("16: all feet", x.count(1), feet);
        TimingLights y = Check.reel(20, 99);
        Check.due("16: the farthest foot", y.of(19, 1), 1881);
        y.takeOut(0);
        Check.due("16: it comes nearer", y.of(18, 1), 1782);
        unchanged("16: its length", z -> z.of(3, 0), 7);
        unchanged("16: where it begins", z -> z.of(3, 1), 104);
    }

    /** "2 whether it has an answer (1 or 0)" */
    private static void ofAnswer() {
        TimingLights x = Check.reel(2, 10);
        Check.due("16: no print", x.of(0, 2), 0);
        x.print();
        Check.due("16: an answer of nothing", x.of(0, 2), 1);
        Check.due("16: the last one's", x.of(1, 2), 1);
        x.correct(0);
        Check.due("16: corrected", x.of(0, 2), 0);
        Check.due("16: not corrected", x.of(1, 2), 1);
        x.light(1, 0, 0);
        x.wish(1, 0, 10);
        x.trim(0, 20);
        x.lamp(0);
        Check.due("16: it outlasts changes", x.of(1, 2), 1);
        unchanged("16: whether it has an answer", z -> z.of(0, 2), 1);
        unchanged("16: whether a new one has", z -> z.of(3, 2), 0);
    }

    /** "3 whether it is bad" */
    private static void ofBad() {
        for (int slack = 0; slack <= 9; slack++) {
            TimingLights x = Check.reel(2, 10);
            x.set(TimingLights.SLACK, slack);
            x.light(0, 1, 25 + slack);
            x.light(1, 1, 24 - slack);
            Check.due("16: not without an answer", x.of(1, 3), 0);
            x.print();
            Check.due("16: just SLACK " + slack, x.of(0, 3), 0);
            Check.due("16: above SLACK " + slack, x.of(1, 3), 1);
        }
        unchanged("16: bad", z -> z.of(0, 3), 1);
        unchanged("16: not bad", z -> z.of(3, 3), 0);
    }

    /** "4 whether there is a jump from it to the next one (1 or 0)" */
    private static void ofJump() {
        Check.due("16: the only one", Reels.oneShot(10, 0, 50).of(0, 4), 0);
        TimingLights x = Check.reel(20, 10);
        x.light(19, 2, 34);
        x.light(0, 2, 34);
        Check.due("16: from the first", x.of(0, 4), 1);
        Check.due("16: from the second", x.of(1, 4), 0);
        Check.due("16: to the last", x.of(18, 4), 1);
        Check.due("16: from the last", x.of(19, 4), 0);
        x.takeOut(19);
        Check.due("16: from the new last", x.of(18, 4), 0);
        Check.due("16: none behind it", x.of(19, 4), NO_SUCH);
        unchanged("16: a jump", z -> z.of(1, 4), 1);
        unchanged("16: no jump from the last", z -> z.of(3, 4), 0);
    }

    // ---- 17: inColour

    /** "NO_SUCH if there is no such shot; BAD_VALUE if colour or what is out of range" */
    private static void inColourRefused() {
        for (int place : WRONG_PLACES) {
            unchanged("17: place " + place, x -> x.inColour(place, 0, 0), NO_SUCH);
        }
        for (int colour : WRONG_COLOURS) {
            unchanged("17: colour " + colour, x -> x.inColour(0, colour, 0), BAD_VALUE);
            unchanged("17: colour ahead of no answer " + colour, x -> x.inColour(3, colour, 5), BAD_VALUE);
        }
        for (int what : Reels.outside(0, 5)) {
            unchanged("17: what " + what, x -> x.inColour(0, 2, what), BAD_VALUE);
        }
        TimingLights empty = new TimingLights();
        TimingLights full = Check.reel(20, 10);
        for (int what = 0; what <= 5; what++) {
            Check.due("17: no shot", empty.inColour(0, 0, what), NO_SUCH);
            Check.due("17: place -1 of 20", full.inColour(-1, 0, what), NO_SUCH);
            Check.due("17: place 20 of 20", full.inColour(20, 0, what), NO_SUCH);
            Check.due("17: colour -1", full.inColour(19, -1, what), BAD_VALUE);
            Check.due("17: colour 3", full.inColour(19, 3, what), BAD_VALUE);
        }
    }

    /** "0 its density, 1 its wish and 10, 2 its light, 3 as what it prints now, 4 by how much it is off now .." */
    private static void inColourBounds() {
        for (int place : new int[] {0, 19}) {
            for (int colour = 0; colour < 3; colour++) {
                TimingLights x = Reels.full();
                x.trim(colour, 0);
                x.lamp(colour);
                x.light(place, colour, 0);
                x.wish(place, colour, -10);
                int density = new int[] {20 + place / 2, 2 * place, 50 - place}[colour];
                Check.due("17: density", x.inColour(place, colour, 0), density);
                Check.due("17: the least wish", x.inColour(place, colour, 1), 0);
                Check.due("17: the least light", x.inColour(place, colour, 2), 0);
                Check.due("17: prints with it", x.inColour(place, colour, 3), Math.max(0, 25 - density));
                Check.due("17: off with it", x.inColour(place, colour, 4), Math.max(0, 25 - density) + 85);
                x.light(place, colour, 50);
                x.wish(place, colour, 10);
                Check.due("17: the most wish", x.inColour(place, colour, 1), 20);
                Check.due("17: the most light", x.inColour(place, colour, 2), 50);
                Check.due("17: prints with that", x.inColour(place, colour, 3), Math.min(50, 75 - density));
                Check.due("17: off with that", x.inColour(place, colour, 4), Math.min(50, 75 - density) + 65);
            }
        }
        int[] told = {20, 6, 25, 29, 108};
        for (int what = 0; what <= 4; what++) {
            int asked = what;
            unchanged("17: what " + what, x -> x.inColour(1, 1, asked), told[what]);
        }
    }

    /** "5 its answer and 100 (NONE if it has none)" */
    private static void inColourAnswer() {
        TimingLights x = new TimingLights();
        x.shot(0, 99, 50, 0, 25);
        x.wish(0, 0, 10);
        x.wish(0, 1, -10);
        for (int colour = 0; colour < 3; colour++) {
            Check.due("17: no answer in " + colour, x.inColour(0, colour, 5), NONE);
        }
        x.print();
        int[] answers = {65, 135, 100};
        for (int colour = 0; colour < 3; colour++) {
            Check.due("17: the answer in " + colour, x.inColour(0, colour, 5), answers[colour]);
        }
        x.correct(0);
        for (int colour = 0; colour < 3; colour++) {
            Check.due("17: no more answer in " + colour, x.inColour(0, colour, 5), NONE);
        }
        unchanged("17: an answer", y -> y.inColour(0, 0, 5), 120);
        unchanged("17: no answer", y -> y.inColour(3, 0, 5), NONE);
    }

    // ---- 18: ofLamp

    /** "BAD_VALUE if colour or what is out of range" */
    private static void ofLampRefused() {
        for (int colour : WRONG_COLOURS) {
            unchanged("18: colour " + colour, x -> x.ofLamp(colour, 0), BAD_VALUE);
        }
        for (int what : Reels.outside(0, 2)) {
            unchanged("18: what " + what, x -> x.ofLamp(1, what), BAD_VALUE);
        }
        TimingLights x = new TimingLights();
        for (int what = 0; what <= 2; what++) {
            Check.due("18: colour -1", x.ofLamp(-1, what), BAD_VALUE);
            Check.due("18: colour 3", x.ofLamp(3, what), BAD_VALUE);
            Check.due("18: colour 0", x.ofLamp(0, what), what == 2 ? 20 : 0);
            Check.due("18: colour 2", x.ofLamp(2, what), what == 2 ? 20 : 0);
        }
    }

    /** "0 its age, 1 what it loses, 2 the trim and 20" */
    private static void ofLampBounds() {
        for (int colour = 0; colour < 3; colour++) {
            TimingLights x = Reels.printed(19, 99, 52);
            x.set(TimingLights.RATE, 50);
            Check.due("18: the age", x.ofLamp(colour, 0), 988);
            Check.due("18: what it loses", x.ofLamp(colour, 1), 494);
            x.trim(colour, -20);
            Check.due("18: the least trim", x.ofLamp(colour, 2), 0);
            x.trim(colour, 20);
            Check.due("18: the most trim", x.ofLamp(colour, 2), 40);
        }
        int[] told = {4, 2, 23};
        for (int what = 0; what <= 2; what++) {
            int asked = what;
            unchanged("18: what " + what, x -> x.ofLamp(2, asked), told[what]);
        }
    }

    // ---- 19: count

    /** "BAD_VALUE if what is out of range" */
    private static void countRefused() {
        for (int what : Reels.outside(0, 13)) {
            unchanged("19: what " + what, x -> x.count(what), BAD_VALUE);
            Check.due("19: a new object, what " + what, new TimingLights().count(what), BAD_VALUE);
        }
        int[] told = {4, 111, 2, 0b11, 0b111, 0b010, 14, 0b11, 2, 3, 8, 50, 17, 6};
        for (int what = 0; what <= 13; what++) {
            int asked = what;
            unchanged("19: what " + what, x -> x.count(asked), told[what]);
        }
    }

    /** "0 shots, 1 feet of all" */
    private static void countShotsAndFeet() {
        for (int shots = 0; shots <= 20; shots++) {
            TimingLights x = Check.reel(shots, 99);
            Check.due("19: shots", x.count(0), shots);
            Check.due("19: feet", x.count(1), 99 * shots);
        }
        TimingLights y = Check.reel(1, 1);
        Check.due("19: a foot", y.count(1), 1);
        y.takeOut(0);
        Check.due("19: no foot", y.count(1), 0);
    }

    /** "2 prints so far" */
    private static void countPrints() {
        TimingLights x = Check.reel(1, 1);
        for (int prints = 1; prints <= 30; prints++) {
            x.print();
            Check.due("19: prints so far", x.count(2), prints);
        }
        x.takeOut(0);
        x.print();
        Check.due("19: none is refused", x.count(2), 30);
        x.shot(0, 1, 25, 25, 25);
        x.lamp(0);
        Check.due("19: they stay", x.count(2), 30);
        Check.due("19: the most", Reels.printed(1, 1, 200).count(2), 200);
    }

    /** "3 bad shots, 4 shots with an answer, 5 first shots of jumps, all three as sets" */
    private static void countSets() {
        TimingLights none = new TimingLights();
        for (int what = 3; what <= 5; what++) {
            Check.due("19: an empty set", none.count(what), 0);
        }
        TimingLights x = Check.reel(20, 10);
        for (int place = 0; place < 20; place++) {
            x.light(place, place % 3, place % 2 == 0 ? 37 : 13);
        }
        Check.due("19: no bad ones yet", x.count(3), 0);
        Check.due("19: no answers yet", x.count(4), 0);
        x.print();
        Check.due("19: all are bad", x.count(3), 0xFFFFF);
        Check.due("19: all have answers", x.count(4), 0xFFFFF);
        Check.due("19: all jump but the last one", x.count(5), 0x7FFFF);
        x.correct(19);
        Check.due("19: the last one is not bad", x.count(3), 0x7FFFF);
        Check.due("19: the last one has no answer", x.count(4), 0x7FFFF);
        x.correct(0);
        Check.due("19: the first one is not bad", x.count(3), 0x7FFFE);
        Check.due("19: the first one has no answer", x.count(4), 0x7FFFE);
        x.set(TimingLights.JUMP, 40);
        Check.due("19: none jumps", x.count(5), 0);
    }

    /** "6 points by which lights were changed by corrections so far" */
    private static void countPoints() {
        TimingLights x = new TimingLights();
        x.shot(0, 10, 30, 20, 25);
        x.shot(1, 10, 25, 25, 27);
        x.light(0, 2, 26);
        Check.due("19: a light changed by hand", x.count(6), 0);
        x.print();
        Check.due("19: a print", x.count(6), 0);
        x.correct(0);
        Check.due("19: 5, 5 and 1", x.count(6), 11);
        x.correctAll();
        Check.due("19: 2 more", x.count(6), 13);
        x.takeOut(0);
        Check.due("19: also of a shot that is out", x.count(6), 13);
        x.print();
        x.correct(0);
        Check.due("19: nothing more", x.count(6), 13);
        TimingLights y = new TimingLights();
        y.shot(0, 1, 0, 50, 25);
        y.set(TimingLights.RATE, 0);
        for (int round = 1; round <= 40; round++) {
            y.light(0, 0, 50);
            y.light(0, 1, 0);
            y.print();
            y.correct(0);
            Check.due("19: 50 a round", y.count(6), 50 * round);
        }
    }

    /** "7 shots that are off now by more than SLACK in some colour, as a set" */
    private static void countOff() {
        Check.due("19: of an empty reel", new TimingLights().count(7), 0);
        for (int colour = 0; colour < 3; colour++) {
            for (int slack = 0; slack <= 9; slack++) {
                TimingLights x = Check.reel(20, 10);
                x.set(TimingLights.SLACK, slack);
                x.light(0, colour, 25 + slack);
                x.light(1, colour, 26 + slack);
                x.light(18, colour, 25 - slack);
                x.light(19, colour, 24 - slack);
                Check.due("19: off by more than " + slack, x.count(7), 1 << 1 | 1 << 19);
                x.wish(1, colour, 1);
                x.wish(19, colour, -1);
                Check.due("19: not off the wish", x.count(7), 0);
                x.wish(10, colour, slack + 1);
                Check.due("19: off the wish", x.count(7), 1 << 10);
            }
        }
    }

    /** "8 to 11 the settings" */
    private static void countSettings() {
        int[][] values = {{1, 0, 1, 0}, {5, 9, 40, 50}};
        TimingLights x = new TimingLights();
        for (int[] row : values) {
            for (int setting = 0; setting < 4; setting++) {
                x.set(setting, row[setting]);
            }
            for (int setting = 0; setting < 4; setting++) {
                Check.due("19: setting " + setting, x.count(8 + setting), row[setting]);
            }
        }
    }

    /** "12 the length of the pad" */
    private static void countPad() {
        TimingLights x = new TimingLights();
        for (int length = 0; length <= 80; length++) {
            Check.due("19: the pad", x.count(12), length);
            x.put('p');
        }
        Check.due("19: eighty at most", x.count(12), 80);
        x.wipe();
        Check.due("19: the empty pad", x.count(12), 0);
    }

    /** "13 how many changes can be undone" */
    private static void countChanges() {
        TimingLights x = new TimingLights();
        for (int changes = 0; changes <= 8; changes++) {
            Check.due("19: changes", x.count(13), Math.min(6, changes));
            x.card();
        }
        for (int left = 5; left >= 0; left--) {
            x.undo();
            Check.due("19: changes that are left", x.count(13), left);
        }
        x.undo();
        Check.due("19: none is left", x.count(13), 0);
    }
}
