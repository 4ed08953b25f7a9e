/** Promises 1 to 15: a new object, and the changes. */
public final class ChangesTest {
    private static final int[] WRONG_COLOURS = {-1, 3, Integer.MIN_VALUE, Integer.MAX_VALUE};
    private static final int[] WRONG_PLACES = {-1, 2, 20, 21, Integer.MIN_VALUE, Integer.MAX_VALUE};

    public static void main(String[] args) {
        promise1NewObject();
        promise2Set();
        promise3Shot();
        promise4TakeOut();
        promise5Light();
        promise6Wish();
        promise7Move();
        promise8Split();
        promise9Join();
        promise10Print();
        promise10AgeOfLamps();
        promise11Correct();
        promise11Steps();
        promise11Bounds();
        promise12CorrectAll();
        promise13Card();
        promise14Trim();
        promise15Lamp();
        Check.end();
    }

    private static void promise1NewObject() {
        TimingLights x = new TimingLights();
        int[] counts = {0, 0, 0, 0, 0, 0, 0, 0, 1, 1, 8, 10, 0, 0};
        for (int what = 0; what < counts.length; what++) {
            Check.due("1: count(" + what + ")", x.count(what), counts[what]);
        }
        for (int colour = 0; colour < 3; colour++) {
            Check.due("1: age " + colour, x.ofLamp(colour, 0), 0);
            Check.due("1: loss " + colour, x.ofLamp(colour, 1), 0);
            Check.due("1: trim " + colour, x.ofLamp(colour, 2), 20);
        }
        Check.due("1: undo", x.undo(), TimingLights.NOT_POSSIBLE);
        Check.due("1: restore(0)", x.restore(0), TimingLights.NOT_POSSIBLE);
        Check.due("1: restore(1)", x.restore(1), TimingLights.NOT_POSSIBLE);
        Check.due("1: wipe", x.wipe(), 0);
    }

    private static void promise2Set() {
        int[] least = {1, 0, 1, 0};
        int[] most = {5, 9, 40, 50};
        int[] first = {1, 1, 8, 10};
        TimingLights x = new TimingLights();
        for (int setting = 0; setting < 4; setting++) {
            Check.due("2: too low " + setting, x.set(setting, least[setting] - 1), TimingLights.BAD_VALUE);
            Check.due("2: too high " + setting, x.set(setting, most[setting] + 1), TimingLights.BAD_VALUE);
            Check.due("2: least " + setting, x.set(setting, least[setting]), first[setting]);
            Check.due("2: most " + setting, x.set(setting, most[setting]), least[setting]);
            Check.due("2: it stands " + setting, x.count(8 + setting), most[setting]);
            Check.due("2: lowest int " + setting, x.set(setting, Integer.MIN_VALUE), TimingLights.BAD_VALUE);
        }
        Check.due("2: no setting -1", x.set(-1, 1), TimingLights.BAD_VALUE);
        Check.due("2: no setting 4", x.set(4, 1), TimingLights.BAD_VALUE);
        Check.due("2: no such setting", x.set(Integer.MAX_VALUE, 1), TimingLights.BAD_VALUE);
    }

    private static void promise3Shot() {
        TimingLights x = new TimingLights();
        Check.due("3: place 1 of none", x.shot(1, 10, 1, 2, 3), TimingLights.NO_SUCH);
        Check.due("3: place -1", x.shot(-1, 10, 1, 2, 3), TimingLights.NO_SUCH);
        Check.due("3: place ahead of value", x.shot(1, 0, 1, 2, 3), TimingLights.NO_SUCH);
        Check.due("3: feet 0", x.shot(0, 0, 1, 2, 3), TimingLights.BAD_VALUE);
        Check.due("3: feet 100", x.shot(0, 100, 1, 2, 3), TimingLights.BAD_VALUE);
        Check.due("3: red 51", x.shot(0, 10, 51, 2, 3), TimingLights.BAD_VALUE);
        Check.due("3: green -1", x.shot(0, 10, 1, -1, 3), TimingLights.BAD_VALUE);
        Check.due("3: blue 51", x.shot(0, 10, 1, 2, 51), TimingLights.BAD_VALUE);
        Check.due("3: nothing came", x.count(0), 0);
        Check.due("3: least", x.shot(0, 1, 0, 50, 25), 1);
        Check.due("3: most, at the front", x.shot(0, 99, 50, 0, 7), 2);
        Check.due("3: in the middle", x.shot(1, 40, 11, 12, 13), 3);
        Check.due("3: first one's length", x.of(0, 0), 99);
        Check.due("3: middle one's length", x.of(1, 0), 40);
        Check.due("3: last one's length", x.of(2, 0), 1);
        for (int colour = 0; colour < 3; colour++) {
            Check.due("3: its density", x.inColour(1, colour, 0), 11 + colour);
            Check.due("3: its wish", x.inColour(1, colour, 1), 10);
            Check.due("3: its light", x.inColour(1, colour, 2), 25);
            Check.due("3: its answer", x.inColour(1, colour, 5), TimingLights.NONE);
        }
        promise3FullReel();
        promise3UsedPlace();
    }

    private static void promise3FullReel() {
        TimingLights x = Check.reel(20, 5);
        Check.due("3: twenty", x.count(0), 20);
        Check.due("3: one too many", x.shot(20, 5, 1, 1, 1), TimingLights.TOO_MANY);
        Check.due("3: one too many in front", x.shot(0, 5, 1, 1, 1), TimingLights.TOO_MANY);
        Check.due("3: place 21", x.shot(21, 5, 1, 1, 1), TimingLights.NO_SUCH);
        Check.due("3: value ahead of too many", x.shot(20, 0, 1, 1, 1), TimingLights.BAD_VALUE);
        Check.due("3: the last one", x.of(19, 1), 95);
        TimingLights y = new TimingLights();
        for (int shot = 1; shot <= 20; shot++) {
            Check.due("3: in front of all", y.shot(0, shot, shot, 2 * shot, 25), shot);
        }
        for (int place = 0; place < 20; place++) {
            Check.due("3: length behind those in front", y.of(place, 0), 20 - place);
            Check.due("3: red behind those in front", y.inColour(place, 0, 0), 20 - place);
            Check.due("3: green behind those in front", y.inColour(place, 1, 0), 40 - 2 * place);
        }
    }

    private static void promise3UsedPlace() {
        TimingLights x = Check.reel(1, 5);
        x.light(0, 1, 40);
        x.wish(0, 1, 5);
        x.print();
        x.takeOut(0);
        x.shot(0, 6, 1, 2, 3);
        Check.due("3: new light at a used place", x.inColour(0, 1, 2), 25);
        Check.due("3: new wish at a used place", x.inColour(0, 1, 1), 10);
        Check.due("3: no answer at a used place", x.of(0, 2), 0);
    }

    private static void promise4TakeOut() {
        TimingLights x = new TimingLights();
        Check.due("4: of none", x.takeOut(0), TimingLights.NO_SUCH);
        x.shot(0, 10, 1, 1, 1);
        x.shot(1, 20, 2, 2, 2);
        x.shot(2, 30, 3, 3, 3);
        x.print();
        x.correct(1);
        Check.due("4: place 3", x.takeOut(3), TimingLights.NO_SUCH);
        Check.due("4: place -1", x.takeOut(-1), TimingLights.NO_SUCH);
        Check.due("4: the first", x.takeOut(0), 2);
        Check.due("4: the second comes first", x.of(0, 0), 20);
        Check.due("4: with its densities", x.inColour(0, 2, 0), 2);
        Check.due("4: with its light", x.inColour(0, 2, 2), 2);
        Check.due("4: answers keep to their shots", x.count(4), 2);
        Check.due("4: the last", x.takeOut(1), 1);
        Check.due("4: the one left", x.takeOut(0), 0);
        Check.due("4: none is left", x.takeOut(0), TimingLights.NO_SUCH);
    }

    private static void promise5Light() {
        TimingLights x = Check.reel(2, 10);
        for (int place : WRONG_PLACES) {
            Check.due("5: place " + place, x.light(place, 5, 99), TimingLights.NO_SUCH);
        }
        for (int colour : WRONG_COLOURS) {
            Check.due("5: colour " + colour, x.light(0, colour, 1), TimingLights.BAD_VALUE);
        }
        Check.due("5: points -1", x.light(0, 0, -1), TimingLights.BAD_VALUE);
        Check.due("5: points 51", x.light(0, 0, 51), TimingLights.BAD_VALUE);
        Check.due("5: least", x.light(1, 0, 0), 25);
        Check.due("5: most", x.light(1, 0, 50), 0);
        Check.due("5: blue", x.light(1, 2, 7), 25);
        Check.due("5: it stands", x.inColour(1, 0, 2), 50);
        Check.due("5: blue stands", x.inColour(1, 2, 2), 7);
        Check.due("5: green as before", x.inColour(1, 1, 2), 25);
        Check.due("5: other shot as before", x.inColour(0, 0, 2), 25);
        x.print();
        x.light(1, 0, 3);
        Check.due("5: the answer stays", x.inColour(1, 0, 5), 125);
    }

    private static void promise6Wish() {
        TimingLights x = Check.reel(2, 10);
        for (int place : WRONG_PLACES) {
            Check.due("6: place " + place, x.wish(place, 5, 99), TimingLights.NO_SUCH);
        }
        for (int colour : WRONG_COLOURS) {
            Check.due("6: colour " + colour, x.wish(0, colour, 1), TimingLights.BAD_VALUE);
        }
        Check.due("6: points -11", x.wish(0, 0, -11), TimingLights.BAD_VALUE);
        Check.due("6: points 11", x.wish(0, 0, 11), TimingLights.BAD_VALUE);
        Check.due("6: least", x.wish(1, 2, -10), 10);
        Check.due("6: most", x.wish(1, 2, 10), 0);
        Check.due("6: back", x.wish(1, 2, 3), 20);
        Check.due("6: it stands", x.inColour(1, 2, 1), 13);
        Check.due("6: green as before", x.inColour(1, 1, 1), 10);
        Check.due("6: the light as before", x.inColour(1, 2, 2), 25);
    }

    private static void promise7Move() {
        TimingLights x = new TimingLights();
        for (int place = 0; place < 5; place++) {
            x.shot(place, 10 + place, place, 0, 0);
        }
        x.print();
        x.correct(1);
        Check.due("7: place 5", x.move(5, 0), TimingLights.NO_SUCH);
        Check.due("7: to 5", x.move(0, 5), TimingLights.NO_SUCH);
        Check.due("7: place -1", x.move(-1, 0), TimingLights.NO_SUCH);
        Check.due("7: to -1", x.move(0, -1), TimingLights.NO_SUCH);
        Check.due("7: to far below", x.move(0, Integer.MIN_VALUE), TimingLights.NO_SUCH);
        Check.due("7: up", x.move(1, 3), 2);
        checkLengths("7: after up", x, 10, 12, 13, 11, 14);
        Check.due("7: its missing answer goes along", x.count(4), 0b10111);
        Check.due("7: its density goes along", x.inColour(3, 0, 0), 1);
        Check.due("7: answers go along", x.inColour(1, 0, 5), 123);
        Check.due("7: down", x.move(4, 0), 4);
        checkLengths("7: after down", x, 14, 10, 12, 13, 11);
        Check.due("7: the answer goes along", x.inColour(0, 0, 5), 121);
        Check.due("7: nowhere", x.move(2, 2), 0);
        checkLengths("7: after nowhere", x, 14, 10, 12, 13, 11);
    }

    private static void checkLengths(String call, TimingLights x, int... feet) {
        for (int place = 0; place < feet.length; place++) {
            Check.due(call + ", length " + place, x.of(place, 0), feet[place]);
        }
    }

    private static void promise8Split() {
        TimingLights x = new TimingLights();
        x.shot(0, 60, 10, 20, 30);
        x.shot(1, 2, 25, 25, 25);
        x.shot(2, 1, 25, 25, 25);
        x.light(0, 2, 33);
        x.wish(0, 1, -4);
        x.print();
        Check.due("8: place 3", x.split(3, 0), TimingLights.NO_SUCH);
        Check.due("8: place -1", x.split(-1, 1), TimingLights.NO_SUCH);
        Check.due("8: feet 0", x.split(0, 0), TimingLights.BAD_VALUE);
        Check.due("8: feet 99", x.split(0, 99), TimingLights.BAD_VALUE);
        Check.due("8: not longer", x.split(0, 60), TimingLights.NOT_POSSIBLE);
        Check.due("8: shorter", x.split(0, 61), TimingLights.NOT_POSSIBLE);
        Check.due("8: a foot", x.split(2, 1), TimingLights.NOT_POSSIBLE);
        Check.due("8: errors leave answers", x.count(4), 0b111);
        Check.due("8: in two", x.split(0, 59), 4);
        checkLengths("8: both", x, 59, 1, 2, 1);
        Check.due("8: neither has an answer", x.count(4), 0b1100);
        for (int colour = 0; colour < 3; colour++) {
            Check.due("8: the same density", x.inColour(1, colour, 0), 10 + 10 * colour);
            Check.due("8: the first one's density", x.inColour(0, colour, 0), 10 + 10 * colour);
        }
        Check.due("8: the same light", x.inColour(1, 2, 2), 33);
        Check.due("8: the same wish", x.inColour(1, 1, 1), 6);
        Check.due("8: two feet", x.split(2, 1), 5);
        checkLengths("8: all", x, 59, 1, 1, 1, 1);
        promise8FullReel();
    }

    private static void promise8FullReel() {
        TimingLights x = Check.reel(20, 5);
        Check.due("8: a full reel", x.split(19, 1), TimingLights.TOO_MANY);
        Check.due("8: not longer ahead of too many", x.split(0, 5), TimingLights.NOT_POSSIBLE);
        x.takeOut(0);
        Check.due("8: the last of nineteen", x.split(18, 1), 20);
        Check.due("8: the twentieth", x.of(19, 0), 4);
        Check.due("8: its density", x.inColour(19, 2, 0), 25);
        Check.due("8: its light", x.inColour(19, 1, 2), 25);
        TimingLights y = Check.reel(1, 99);
        Check.due("8: 98 feet", y.split(0, 98), 2);
        checkLengths("8: of 99", y, 98, 1);
    }

    private static void promise9Join() {
        TimingLights x = new TimingLights();
        x.shot(0, 40, 10, 20, 30);
        x.shot(1, 59, 10, 20, 30);
        x.shot(2, 1, 10, 20, 31);
        x.shot(3, 98, 10, 20, 31);
        x.shot(4, 2, 10, 20, 31);
        x.light(0, 1, 30);
        x.wish(0, 1, 3);
        x.light(1, 1, 20);
        x.print();
        Check.due("9: place 5", x.join(5), TimingLights.NO_SUCH);
        Check.due("9: place -1", x.join(-1), TimingLights.NO_SUCH);
        Check.due("9: none behind", x.join(4), TimingLights.NO_SUCH);
        Check.due("9: largest int", x.join(Integer.MAX_VALUE), TimingLights.NO_SUCH);
        Check.due("9: other blue", x.join(1), TimingLights.NOT_POSSIBLE);
        Check.due("9: 100 feet", x.join(3), TimingLights.NOT_POSSIBLE);
        Check.due("9: errors leave answers", x.count(4), 0b11111);
        for (int colour = 0; colour < 3; colour++) {
            x.wish(1, colour, -1 - colour);
            x.light(1, colour, 40 + colour);
        }
        Check.due("9: 99 feet", x.join(0), 99);
        checkLengths("9: joined", x, 99, 1, 98, 2);
        Check.due("9: the first one's light", x.inColour(0, 1, 2), 30);
        Check.due("9: the first one's wish", x.inColour(0, 1, 1), 13);
        Check.due("9: it has no answer", x.count(4), 0b1110);
        Check.due("9: four are left", x.count(0), 4);
        Check.due("9: 99 feet again", x.join(1), 99);
        TimingLights y = new TimingLights();
        y.shot(0, 1, 10, 20, 30);
        y.shot(1, 1, 11, 20, 30);
        y.shot(2, 1, 11, 21, 30);
        Check.due("9: other red", y.join(0), TimingLights.NOT_POSSIBLE);
        Check.due("9: other green", y.join(1), TimingLights.NOT_POSSIBLE);
        Check.due("9: the only one", Check.reel(1, 1).join(0), TimingLights.NO_SUCH);
    }

    private static void promise10Print() {
        TimingLights x = new TimingLights();
        Check.due("10: no shot", x.print(), TimingLights.NOT_POSSIBLE);
        x.shot(0, 50, 26, 25, 24);
        x.shot(1, 50, 27, 25, 25);
        x.shot(2, 1, 25, 25, 23);
        Check.due("10: two are bad", x.print(), 2);
        Check.due("10: a print", x.count(2), 1);
        Check.due("10: red answer", x.inColour(0, 0, 5), 99);
        Check.due("10: blue answer", x.inColour(0, 2, 5), 101);
        Check.due("10: low answer", x.inColour(1, 0, 5), 98);
        Check.due("10: high answer", x.inColour(2, 2, 5), 102);
        Check.due("10: 101 feet are two hours", x.ofLamp(1, 0), 2);
        x.takeOut(2);
        Check.due("10: one is bad", x.print(), 1);
        Check.due("10: 100 feet are one hour", x.ofLamp(1, 0), 3);
        x.shot(2, 99, 25, 25, 25);
        x.wish(2, 0, 2);
        Check.due("10: a shot that came has no answer", x.inColour(2, 0, 5), TimingLights.NONE);
        Check.due("10: a wish is off", x.print(), 2);
        Check.due("10: answer to a wish", x.inColour(2, 0, 5), 98);
        x.set(TimingLights.SLACK, 2);
        Check.due("10: none is bad", x.print(), 0);
        x.set(TimingLights.RATE, 50);
        Check.due("10: the answer is taken ahead of the age", x.inColour(1, 1, 5), 100);
        Check.due("10: prints", x.count(2), 4);
        Check.due("10: loss", x.ofLamp(0, 1), 3);
        TimingLights y = Check.reel(3, 10);
        y.set(TimingLights.SLACK, 0);
        Check.due("10: none is bad without slack", y.print(), 0);
        y.light(1, 1, 24);
        Check.due("10: one is bad without slack", y.print(), 1);
    }

    private static void promise10AgeOfLamps() {
        TimingLights x = Check.reel(20, 99);
        x.set(TimingLights.RATE, 0);
        for (int prints = 1; prints <= 49; prints++) {
            Check.due("10: print " + prints, x.print(), 0);
        }
        Check.due("10: age 980", x.ofLamp(2, 0), 980);
        Check.due("10: it would be 1000", x.print(), TimingLights.NOT_POSSIBLE);
        Check.due("10: no print was made", x.count(2), 49);
        x.lamp(0);
        x.lamp(1);
        Check.due("10: one old lamp is enough", x.print(), TimingLights.NOT_POSSIBLE);
        Check.due("10: the new ones stay new", x.ofLamp(0, 0), 0);
        x.takeOut(0);
        Check.due("10: 999 hours", x.print(), 0);
        Check.due("10: age 999", x.ofLamp(2, 0), 999);
        Check.due("10: age 19", x.ofLamp(1, 0), 19);
        Reels.takeOutFirst(x, 18);
        Check.due("10: not an hour more", x.print(), TimingLights.NOT_POSSIBLE);
        Check.due("10: the lamp out", x.lamp(2), 999);
        Check.due("10: with a new lamp", x.print(), 0);
        for (int old = 0; old < 3; old++) {
            TimingLights y = Check.reel(20, 99);
            y.set(TimingLights.RATE, 0);
            for (int prints = 0; prints < 49; prints++) {
                y.print();
            }
            y.lamp((old + 1) % 3);
            y.lamp((old + 2) % 3);
            Check.due("10: too old is lamp " + old, y.print(), TimingLights.NOT_POSSIBLE);
            y.lamp(old);
            Check.due("10: new is lamp " + old, y.print(), 0);
        }
    }

    private static void promise11Correct() {
        TimingLights x = new TimingLights();
        x.shot(0, 50, 30, 18, 25);
        x.shot(1, 50, 30, 18, 25);
        Check.due("11: no print yet", x.correct(0), TimingLights.NOT_POSSIBLE);
        Check.due("11: place 2", x.correct(2), TimingLights.NO_SUCH);
        Check.due("11: place -1", x.correct(-1), TimingLights.NO_SUCH);
        x.print();
        Check.due("11: 5 and 7", x.correct(0), 12);
        Check.due("11: red", x.inColour(0, 0, 2), 30);
        Check.due("11: green", x.inColour(0, 1, 2), 18);
        Check.due("11: blue", x.inColour(0, 2, 2), 25);
        Check.due("11: it is right", x.inColour(0, 0, 4), 100);
        Check.due("11: points so far", x.count(6), 12);
        Check.due("11: the answer is gone", x.inColour(0, 0, 5), TimingLights.NONE);
        Check.due("11: once only", x.correct(0), TimingLights.NOT_POSSIBLE);
        Check.due("11: the other has its answer", x.count(4), 0b10);
        x.light(1, 0, 27);
        Check.due("11: from the light that it has", x.correct(1), 12);
        Check.due("11: red of it", x.inColour(1, 0, 2), 32);
        Check.due("11: points of both", x.count(6), 24);
        x.print();
        x.wish(0, 0, 9);
        Check.due("11: a later wish is no answer", x.correct(0), 0);
    }

    private static void promise11Steps() {
        int[] fives = {0, 4, 5, 5, 9, 9, 10};
        int[] moved = {0, 0, 5, 5, 5, 5, 10};
        for (int i = 0; i < fives.length; i++) {
            TimingLights x = new TimingLights();
            x.set(TimingLights.STEP, 5);
            x.shot(0, 10, 25 + fives[i], 25 - fives[i], 25);
            x.print();
            Check.due("11: steps of " + fives[i], x.correct(0), 2 * moved[i]);
            Check.due("11: up by " + fives[i], x.inColour(0, 0, 2), 25 + moved[i]);
            Check.due("11: down by " + fives[i], x.inColour(0, 1, 2), 25 - moved[i]);
        }
        TimingLights y = new TimingLights();
        y.shot(0, 10, 35, 15, 25);
        y.print();
        y.set(TimingLights.STEP, 3);
        Check.due("11: the STEP is the one of now", y.correct(0), 18);
    }

    private static void promise11Bounds() {
        TimingLights x = new TimingLights();
        x.shot(0, 10, 50, 0, 25);
        x.print();
        x.light(0, 0, 40);
        x.light(0, 1, 7);
        Check.due("11: behind the bounds", x.correct(0), 17);
        Check.due("11: 50 at most", x.inColour(0, 0, 2), 50);
        Check.due("11: 0 at least", x.inColour(0, 1, 2), 0);
        Check.due("11: points really changed", x.count(6), 17);
    }

    private static void promise12CorrectAll() {
        TimingLights x = new TimingLights();
        Check.due("12: no shot", x.correctAll(), 0);
        x.shot(0, 10, 26, 25, 25);
        x.shot(1, 10, 25, 25, 27);
        x.shot(2, 10, 22, 25, 24);
        Check.due("12: no answer", x.correctAll(), 0);
        x.print();
        Check.due("12: two are bad", x.correctAll(), 2);
        Check.due("12: the good one keeps its answer", x.count(4), 0b001);
        Check.due("12: its light", x.inColour(0, 0, 2), 25);
        Check.due("12: a bad one's light", x.inColour(1, 2, 2), 27);
        Check.due("12: the other's light", x.inColour(2, 0, 2), 22);
        Check.due("12: good colours of a bad one, too", x.inColour(2, 2, 2), 24);
        Check.due("12: points", x.count(6), 6);
        Check.due("12: none is left", x.correctAll(), 0);
        x.set(TimingLights.SLACK, 0);
        Check.due("12: with less slack", x.correctAll(), 1);
        Check.due("12: the first one's light", x.inColour(0, 0, 2), 26);
    }

    private static void promise13Card() {
        TimingLights x = Check.reel(20, 50);
        Check.due("13: new lamps", x.card(), 0);
        x.print();
        x.lamp(1);
        x.print();
        x.print();
        x.set(TimingLights.RATE, 50);
        x.trim(0, -5);
        Check.due("13: losses 15, 10, 15", x.card(), 40);
        Check.due("13: red", x.ofLamp(0, 2), 35);
        Check.due("13: green", x.ofLamp(1, 2), 30);
        Check.due("13: blue", x.ofLamp(2, 2), 35);
        Check.due("13: it prints as it should", x.count(7), 0);
        x.print();
        Check.due("13: just 20", x.card(), 55);
        x.print();
        x.print();
        Check.due("13: 20 at most", x.card(), 60);
        Check.due("13: the prints as before", x.count(2), 6);
        Check.due("13: the ages as before", x.ofLamp(1, 0), 50);
        Check.due("13: loss", x.ofLamp(0, 1), 30);
        Check.due("13: trim", x.ofLamp(0, 2), 40);
    }

    private static void promise14Trim() {
        TimingLights x = Check.reel(1, 10);
        for (int colour : WRONG_COLOURS) {
            Check.due("14: colour " + colour, x.trim(colour, 0), TimingLights.BAD_VALUE);
        }
        Check.due("14: points -21", x.trim(0, -21), TimingLights.BAD_VALUE);
        Check.due("14: points 21", x.trim(0, 21), TimingLights.BAD_VALUE);
        Check.due("14: least", x.trim(2, -20), 20);
        Check.due("14: it prints less", x.inColour(0, 2, 3), 5);
        Check.due("14: most", x.trim(2, 20), 0);
        Check.due("14: it prints more", x.inColour(0, 2, 3), 45);
        Check.due("14: it stands", x.ofLamp(2, 2), 40);
        Check.due("14: others as before", x.ofLamp(1, 2), 20);
    }

    private static void promise15Lamp() {
        TimingLights x = Check.reel(20, 50);
        for (int colour : WRONG_COLOURS) {
            Check.due("15: colour " + colour, x.lamp(colour), TimingLights.BAD_VALUE);
        }
        Check.due("15: a new one", x.lamp(0), 0);
        x.print();
        x.trim(1, 4);
        Check.due("15: the old one's age", x.lamp(1), 10);
        Check.due("15: new", x.ofLamp(1, 0), 0);
        Check.due("15: loses nothing", x.ofLamp(1, 1), 0);
        Check.due("15: the trim stays", x.ofLamp(1, 2), 24);
        Check.due("15: others are as old as before", x.ofLamp(2, 0), 10);
    }
}
