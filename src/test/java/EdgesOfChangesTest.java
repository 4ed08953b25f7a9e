import java.util.function.ToIntFunction;

/**
 * Promises 2 to 15, sentence by sentence: just inside and just outside of every boundary; and that a call which is
 * refused leaves everything as it is, also what undo gives back.
 */
public final class EdgesOfChangesTest {
    private static final int NO_SUCH = TimingLights.NO_SUCH, BAD_VALUE = TimingLights.BAD_VALUE;
    private static final int TOO_MANY = TimingLights.TOO_MANY, NOT_POSSIBLE = TimingLights.NOT_POSSIBLE;
    private static final int[] WRONG_COLOURS = Reels.outside(0, 2);
    private static final int[] WRONG_PLACES = Reels.outside(0, 3);
    private static final int[] WRONG_POINTS = Reels.outside(0, 50);

    public static void main(String[] args) {
        setNoSuchSetting();
        setValueOutOfItsRange();
        shotPlaces();
        shotValuesOutOfRange();
        shotValuesInRange();
        shotTooMany();
        takeOutNoSuchShot();
        takeOutPlaces();
        lightRefused();
        lightBounds();
        wishRefused();
        wishBounds();
        moveRefused();
        movePlaces();
        splitRefused();
        splitNotLonger();
        splitTooMany();
        splitBounds();
        joinNoneBehindIt();
        joinLongerThanNinetyNine();
        joinDensitiesNotTheSame();
        printWithoutAShot();
        printWithAnOldLamp();
        correctRefused();
        correctReallyChanged();
        correctAllBounds();
        cardBounds();
        trimRefused();
        trimBounds();
        lampRefused();
        lampBounds();
        Check.end();
    }

    private static void refused(String name, ToIntFunction<TimingLights> call, int due) {
        Twins.unchanged(name, Reels::rich, call, due);
    }

    private static void refusedIfEmpty(String name, ToIntFunction<TimingLights> call, int due) {
        Twins.unchanged(name + " of an empty reel", TimingLights::new, call, due);
    }

    private static void refusedIfFull(String name, ToIntFunction<TimingLights> call, int due) {
        Twins.unchanged(name + " of a full reel", Reels::full, call, due);
    }

    // ---- 2: set

    /** "BAD_VALUE if there is no such setting" */
    private static void setNoSuchSetting() {
        for (int setting : Reels.outside(0, 3)) {
            refused("2: set(" + setting + ", 1)", x -> x.set(setting, 1), BAD_VALUE);
        }
        refused("2: set(4, 99)", x -> x.set(4, 99), BAD_VALUE);
    }

    /** "or the value is out of its range" */
    private static void setValueOutOfItsRange() {
        int[] least = {1, 0, 1, 0};
        int[] most = {5, 9, 40, 50};
        for (int at = 0; at < 4; at++) {
            int setting = at;
            for (int value : Reels.outside(least[at], most[at])) {
                refused("2: set(" + at + ", " + value + ")", x -> x.set(setting, value), BAD_VALUE);
            }
            TimingLights x = new TimingLights();
            x.set(at, most[at] - 1);
            Check.due("2: the most of " + at, x.set(at, most[at]), most[at] - 1);
            Check.due("2: the least of " + at, x.set(at, least[at]), most[at]);
            Check.due("2: the same again of " + at, x.set(at, least[at]), least[at]);
            Check.due("2: it stands, " + at, x.count(8 + at), least[at]);
            Check.due("2: all four are changes", x.count(13), 4);
        }
    }

    // ---- 3: shot

    /** "the place that it has then, 0 to how many shots there are"; "NO_SUCH if there is no such place" */
    private static void shotPlaces() {
        for (int place : Reels.outside(0, 4)) {
            refused("3: place " + place, x -> x.shot(place, 10, 1, 2, 3), NO_SUCH);
        }
        for (int place : Reels.outside(0, 0)) {
            refusedIfEmpty("3: place " + place, x -> x.shot(place, 10, 1, 2, 3), NO_SUCH);
        }
        for (int place : Reels.outside(0, 20)) {
            refusedIfFull("3: place " + place, x -> x.shot(place, 10, 1, 2, 3), NO_SUCH);
        }
        Check.due("3: place 0 of an empty reel", new TimingLights().shot(0, 10, 1, 2, 3), 1);
        for (int place = 0; place <= 4; place++) {
            TimingLights x = Reels.rich();
            int[] feet = {60, 39, 5, 7};
            Check.due("3: place " + place + " of 4", x.shot(place, 33, 1, 2, 3), 5);
            for (int at = 0; at < 5; at++) {
                Check.due("3: length at " + at, x.of(at, 0), at == place ? 33 : feet[at < place ? at : at - 1]);
            }
            for (int colour = 0; colour < 3; colour++) {
                Check.due("3: its density", x.inColour(place, colour, 0), 1 + colour);
            }
        }
    }

    /** "BAD_VALUE if feet or a density is out of range" */
    private static void shotValuesOutOfRange() {
        for (int feet : Reels.outside(1, 99)) {
            refused("3: feet " + feet, x -> x.shot(4, feet, 1, 2, 3), BAD_VALUE);
        }
        for (int density : WRONG_POINTS) {
            refused("3: red " + density, x -> x.shot(0, 10, density, 2, 3), BAD_VALUE);
            refused("3: green " + density, x -> x.shot(0, 10, 1, density, 3), BAD_VALUE);
            refused("3: blue " + density, x -> x.shot(0, 10, 1, 2, density), BAD_VALUE);
        }
        refusedIfEmpty("3: feet 0", x -> x.shot(0, 0, 1, 2, 3), BAD_VALUE);
        refusedIfFull("3: feet 100", x -> x.shot(0, 100, 1, 2, 3), BAD_VALUE);
    }

    /** "feet: 1 to 99"; "red: 0 to 50: its density, likewise green and blue" */
    private static void shotValuesInRange() {
        for (int feet = 1; feet <= 99; feet++) {
            TimingLights x = new TimingLights();
            Check.due("3: feet " + feet, x.shot(0, feet, 1, 2, 3), 1);
            Check.due("3: its length", x.of(0, 0), feet);
            Check.due("3: all feet", x.count(1), feet);
        }
        for (int density = 0; density <= 50; density++) {
            for (int colour = 0; colour < 3; colour++) {
                TimingLights x = Reels.oneShot(10, colour, density);
                Check.due("3: density " + density, x.inColour(0, colour, 0), density);
                Check.due("3: the next colour's", x.inColour(0, (colour + 1) % 3, 0), 25);
                Check.due("3: the one behind that", x.inColour(0, (colour + 2) % 3, 0), 25);
            }
        }
    }

    /** "TOO_MANY if there are 20 shots" */
    private static void shotTooMany() {
        for (int place : new int[] {0, 1, 10, 19, 20}) {
            refusedIfFull("3: place " + place, x -> x.shot(place, 10, 1, 2, 3), TOO_MANY);
            TimingLights x = Reels.full();
            x.takeOut(19);
            Check.due("3: the twentieth", x.shot(Math.min(19, place), 10, 1, 2, 3), 20);
            Check.due("3: its length", x.of(Math.min(19, place), 0), 10);
            Check.due("3: a shot too many", x.shot(place, 10, 1, 2, 3), TOO_MANY);
            Check.due("3: the last one", x.of(19, 0), place >= 19 ? 10 : 23);
        }
    }

    // ---- 4: takeOut

    /** "NO_SUCH if there is no such shot" */
    private static void takeOutNoSuchShot() {
        for (int place : WRONG_PLACES) {
            refused("4: place " + place, x -> x.takeOut(place), NO_SUCH);
        }
        for (int place : Reels.outside(0, 19)) {
            refusedIfFull("4: place " + place, x -> x.takeOut(place), NO_SUCH);
        }
        for (int place : new int[] {-1, 0, 1}) {
            refusedIfEmpty("4: place " + place, x -> x.takeOut(place), NO_SUCH);
        }
    }

    private static void takeOutPlaces() {
        for (int place = 0; place < 20; place++) {
            TimingLights x = Reels.full();
            Check.due("4: place " + place, x.takeOut(place), 19);
            for (int at = 0; at < 19; at++) {
                Check.due("4: length at " + at, x.of(at, 0), at < place ? 5 + at : 6 + at);
                Check.due("4: density at " + at, x.inColour(at, 2, 0), at < place ? 50 - at : 49 - at);
            }
            Check.due("4: none at 19", x.of(19, 0), NO_SUCH);
        }
        TimingLights y = Check.reel(20, 10);
        for (int left = 19; left >= 0; left--) {
            Check.due("4: left", y.takeOut(left / 2), left);
        }
        Check.due("4: no feet are left", y.count(1), 0);
        Check.due("4: no more", y.takeOut(0), NO_SUCH);
    }

    // ---- 5: light

    /** "NO_SUCH if there is no such shot; BAD_VALUE if colour or points is out of range" */
    private static void lightRefused() {
        for (int place : WRONG_PLACES) {
            refused("5: place " + place, x -> x.light(place, 0, 1), NO_SUCH);
        }
        for (int colour : WRONG_COLOURS) {
            refused("5: colour " + colour, x -> x.light(3, colour, 1), BAD_VALUE);
        }
        for (int points : WRONG_POINTS) {
            refused("5: points " + points, x -> x.light(0, 2, points), BAD_VALUE);
        }
        refusedIfEmpty("5: place 0", x -> x.light(0, 0, 1), NO_SUCH);
        refusedIfFull("5: place 20", x -> x.light(20, 0, 1), NO_SUCH);
    }

    /** "points: 0 to 50"; "Returns the previous one" */
    private static void lightBounds() {
        for (int place : new int[] {0, 19}) {
            for (int colour = 0; colour < 3; colour++) {
                TimingLights x = Check.reel(20, 10);
                for (int points = 0; points <= 50; points++) {
                    Check.due("5: points " + points, x.light(place, colour, points), points == 0 ? 25 : points - 1);
                    Check.due("5: it stands", x.inColour(place, colour, 2), points);
                }
                Check.due("5: the same again", x.light(place, colour, 50), 50);
                Check.due("5: the next colour's", x.inColour(place, (colour + 1) % 3, 2), 25);
                Check.due("5: the one behind that", x.inColour(place, (colour + 2) % 3, 2), 25);
            }
        }
    }

    // ---- 6: wish

    /** "NO_SUCH if there is no such shot; BAD_VALUE if colour or points is out of range" */
    private static void wishRefused() {
        for (int place : WRONG_PLACES) {
            refused("6: place " + place, x -> x.wish(place, 0, 1), NO_SUCH);
        }
        for (int colour : WRONG_COLOURS) {
            refused("6: colour " + colour, x -> x.wish(3, colour, 1), BAD_VALUE);
        }
        for (int points : Reels.outside(-10, 10)) {
            refused("6: points " + points, x -> x.wish(0, 2, points), BAD_VALUE);
        }
        refusedIfEmpty("6: place 0", x -> x.wish(0, 0, 1), NO_SUCH);
        refusedIfFull("6: place 20", x -> x.wish(20, 0, 1), NO_SUCH);
    }

    /** "points: -10 to 10"; "Returns the previous one and 10" */
    private static void wishBounds() {
        for (int place : new int[] {0, 19}) {
            for (int colour = 0; colour < 3; colour++) {
                TimingLights x = Check.reel(20, 10);
                for (int points = -10; points <= 10; points++) {
                    Check.due("6: points " + points, x.wish(place, colour, points), points == -10 ? 10 : points + 9);
                    Check.due("6: it stands", x.inColour(place, colour, 1), points + 10);
                    Check.due("6: off by it", x.inColour(place, colour, 4), 100 - points);
                }
                Check.due("6: the same again", x.wish(place, colour, 10), 20);
                Check.due("6: the next colour's", x.inColour(place, (colour + 1) % 3, 1), 10);
                Check.due("6: the one behind that", x.inColour(place, (colour + 2) % 3, 1), 10);
            }
        }
    }

    // ---- 7: move

    /** "NO_SUCH if there is no such shot, or place of one" */
    private static void moveRefused() {
        for (int place : WRONG_PLACES) {
            refused("7: place " + place, x -> x.move(place, 0), NO_SUCH);
            refused("7: to " + place, x -> x.move(0, place), NO_SUCH);
            refused("7: place and to " + place, x -> x.move(place, place), NO_SUCH);
        }
        refusedIfEmpty("7: place 0", x -> x.move(0, 0), NO_SUCH);
        refusedIfFull("7: place 20", x -> x.move(20, 0), NO_SUCH);
        refusedIfFull("7: to 20", x -> x.move(19, 20), NO_SUCH);
    }

    /** "to: the place that it has then"; "(it keeps its answer)"; "Returns how far it is moved, without a sign" */
    private static void movePlaces() {
        for (int place = 0; place < 4; place++) {
            for (int to = 0; to < 4; to++) {
                TimingLights x = Reels.rich();
                int answered = x.of(place, 2);
                int answer = x.inColour(place, 1, 5);
                int feet = x.of(place, 0);
                Check.due("7: from " + place + " to " + to, x.move(place, to), Math.abs(to - place));
                Check.due("7: its length", x.of(to, 0), feet);
                Check.due("7: whether it has an answer", x.of(to, 2), answered);
                Check.due("7: its answer", x.inColour(to, 1, 5), answer);
                Check.due("7: all feet", x.count(1), 111);
                Check.due("7: a change", x.count(13), 6);
                Check.due("7: back", x.move(to, place), Math.abs(to - place));
            }
        }
        Twins.same("7: there and back", () -> movedBack(0, 3), () -> movedBack(0, 0));
        Twins.same("7: down and back", () -> movedBack(3, 1), () -> movedBack(0, 0));
        TimingLights y = Reels.full();
        Check.due("7: the farthest", y.move(0, 19), 19);
        Check.due("7: it is the last", y.of(19, 0), 5);
        Check.due("7: the second is the first", y.of(0, 0), 6);
        Check.due("7: the farthest back", y.move(19, 0), 19);
        Check.due("7: it is the first", y.of(0, 0), 5);
        Check.due("7: the only one", Check.reel(1, 1).move(0, 0), 0);
    }

    private static TimingLights movedBack(int place, int to) {
        TimingLights x = Reels.rich();
        x.move(place, to);
        x.move(to, place);
        return x;
    }

    // ---- 8: split

    /** "NO_SUCH if there is no such shot; BAD_VALUE if feet is out of range" */
    private static void splitRefused() {
        for (int place : WRONG_PLACES) {
            refused("8: place " + place, x -> x.split(place, 1), NO_SUCH);
        }
        for (int feet : Reels.outside(1, 98)) {
            refused("8: feet " + feet, x -> x.split(0, feet), BAD_VALUE);
        }
        refusedIfEmpty("8: place 0", x -> x.split(0, 1), NO_SUCH);
        refusedIfFull("8: place 20", x -> x.split(20, 1), NO_SUCH);
        refusedIfFull("8: feet 0", x -> x.split(0, 0), BAD_VALUE);
        refusedIfFull("8: feet 99", x -> x.split(0, 99), BAD_VALUE);
    }

    /** "NOT_POSSIBLE if it is not longer" */
    private static void splitNotLonger() {
        for (int feet : new int[] {60, 61, 98}) {
            refused("8: of 60 feet the first " + feet, x -> x.split(0, feet), NOT_POSSIBLE);
        }
        refused("8: of 5 feet the first 5", x -> x.split(2, 5), NOT_POSSIBLE);
        refusedIfFull("8: of 5 feet the first 5", x -> x.split(0, 5), NOT_POSSIBLE);
        Check.due("8: of 5 feet the first 4", Reels.rich().split(2, 4), 5);
        for (int length = 1; length <= 99; length++) {
            TimingLights x = Check.reel(1, length);
            Check.due("8: not longer than " + length, x.split(0, length), length == 99 ? BAD_VALUE : NOT_POSSIBLE);
            Check.due("8: longer by a foot, " + length, x.split(0, length - 1), length == 1 ? BAD_VALUE : 2);
            Check.due("8: the first one's length", x.of(0, 0), Math.max(1, length - 1));
            Check.due("8: the second one's length", x.of(1, 0), length == 1 ? NO_SUCH : 1);
        }
    }

    /** "TOO_MANY if there are 20 shots" */
    private static void splitTooMany() {
        for (int place : new int[] {0, 10, 19}) {
            refusedIfFull("8: place " + place, x -> x.split(place, 1), TOO_MANY);
            TimingLights x = Reels.full();
            x.takeOut(place == 0 ? 19 : 0);
            Check.due("8: the twentieth", x.split(Math.min(18, place), 1), 20);
            Check.due("8: a shot too many", x.split(19, 1), TOO_MANY);
        }
    }

    /** "feet: 1 to 98: the length of the first one"; "with the rest of its length, and the same densities, .." */
    private static void splitBounds() {
        for (int feet : new int[] {1, 2, 49, 97, 98}) {
            TimingLights x = new TimingLights();
            x.shot(0, 3, 25, 25, 25);
            x.shot(1, 99, 11, 22, 33);
            x.shot(2, 4, 25, 25, 25);
            for (int colour = 0; colour < 3; colour++) {
                x.wish(1, colour, 3 * colour - 10);
                x.light(1, colour, 50 - 20 * colour);
            }
            x.print();
            Check.due("8: the first " + feet, x.split(1, feet), 4);
            int[] lengths = {3, feet, 99 - feet, 4};
            for (int at = 0; at < 4; at++) {
                Check.due("8: length at " + at, x.of(at, 0), lengths[at]);
                Check.due("8: answer at " + at, x.of(at, 2), at == 1 || at == 2 ? 0 : 1);
            }
            for (int what = 0; what < 5; what++) {
                for (int colour = 0; colour < 3; colour++) {
                    Check.due("8: both alike, " + what, x.inColour(2, colour, what), x.inColour(1, colour, what));
                }
            }
            Check.due("8: the density", x.inColour(2, 2, 0), 33);
            Check.due("8: the wish", x.inColour(2, 1, 1), 3);
            Check.due("8: the light", x.inColour(2, 0, 2), 50);
        }
    }

    // ---- 9: join

    /** "NO_SUCH if there is no such shot, or none behind it" */
    private static void joinNoneBehindIt() {
        for (int place : WRONG_PLACES) {
            refused("9: place " + place, x -> x.join(place), NO_SUCH);
        }
        refused("9: the last one", x -> x.join(3), NO_SUCH);
        refusedIfEmpty("9: place 0", x -> x.join(0), NO_SUCH);
        refusedIfEmpty("9: place -1", x -> x.join(-1), NO_SUCH);
        refusedIfFull("9: the last one", x -> x.join(19), NO_SUCH);
        refusedIfFull("9: place 20", x -> x.join(20), NO_SUCH);
        Twins.unchanged("9: the only one", () -> Check.reel(1, 1), x -> x.join(0), NO_SUCH);
        TimingLights x = Check.reel(20, 4);
        Check.due("9: the last but one", x.join(18), 8);
        Check.due("9: it is the last", x.join(18), NO_SUCH);
        Check.due("9: nineteen are left", x.count(0), 19);
        Check.due("9: all feet", x.count(1), 80);
    }

    /** "NOT_POSSIBLE if it would be longer than 99" */
    private static void joinLongerThanNinetyNine() {
        for (int first : new int[] {1, 2, 50, 97, 98, 99}) {
            Twins.unchanged("9: 100 feet, the first " + first, () -> twoShots(first, 100 - first + first / 99),
                    x -> x.join(0), NOT_POSSIBLE);
            if (first < 99) {
                TimingLights x = twoShots(first, 99 - first);
                Check.due("9: 99 feet, the first " + first, x.join(0), 99);
                Check.due("9: its length", x.of(0, 0), 99);
                Check.due("9: it is alone", x.count(0), 1);
                Check.due("9: it has no answer", x.count(4), 0);
            }
        }
        Twins.unchanged("9: 198 feet", () -> twoShots(99, 99), x -> x.join(0), NOT_POSSIBLE);
        Check.due("9: 2 feet", twoShots(1, 1).join(0), 2);
        TimingLights y = Reels.rich();
        Check.due("9: 60 and 39", y.join(0), 99);
        Check.due("9: the light of the first one", y.inColour(0, 0, 2), 31);
        Check.due("9: the wish of the first one", y.inColour(0, 1, 1), 10);
        Check.due("9: the third comes second", y.of(1, 0), 5);
    }

    private static TimingLights twoShots(int first, int second) {
        TimingLights x = new TimingLights();
        x.shot(0, first, 10, 20, 30);
        x.shot(1, second, 10, 20, 30);
        x.print();
        x.wish(1, 1, 5);
        return x;
    }

    /** "or their densities are not the same" */
    private static void joinDensitiesNotTheSame() {
        for (int colour = 0; colour < 3; colour++) {
            for (int density : new int[] {0, 24, 26, 50}) {
                int differs = colour;
                Twins.unchanged("9: " + density + " in colour " + colour, () -> {
                    TimingLights x = Reels.oneShot(10, differs, density);
                    x.shot(1, 10, 25, 25, 25);
                    x.print();
                    return x;
                }, x -> x.join(0), NOT_POSSIBLE);
            }
        }
        TimingLights y = Check.reel(2, 10);
        for (int colour = 0; colour < 3; colour++) {
            y.light(0, colour, colour);
            y.wish(1, colour, colour + 1);
        }
        Check.due("9: other lights and wishes", y.join(0), 20);
        for (int colour = 0; colour < 3; colour++) {
            Check.due("9: the light of the first one", y.inColour(0, colour, 2), colour);
            Check.due("9: the wish of the first one", y.inColour(0, colour, 1), 10);
        }
    }

    // ---- 10: print

    /** "NOT_POSSIBLE if there is no shot" */
    private static void printWithoutAShot() {
        refusedIfEmpty("10: print", TimingLights::print, NOT_POSSIBLE);
        Twins.unchanged("10: a print when the only shot is out", () -> {
            TimingLights x = Reels.printed(1, 10, 3);
            x.takeOut(0);
            return x;
        }, TimingLights::print, NOT_POSSIBLE);
        TimingLights y = Reels.oneShot(1, 0, 50);
        Check.due("10: one shot", y.print(), 1);
        Check.due("10: one print", y.count(2), 1);
    }

    /** "or a lamp would be older than 999 hours" */
    private static void printWithAnOldLamp() {
        for (int colour = 0; colour < 3; colour++) {
            int old = colour;
            Twins.unchanged("10: lamp " + colour + " would be 1000 hours old", () -> oldLamp(old, 20),
                    TimingLights::print, NOT_POSSIBLE);
            Twins.unchanged("10: lamp " + colour + " is 999 hours old", () -> {
                TimingLights x = oldLamp(old, 19);
                x.print();
                return x;
            }, TimingLights::print, NOT_POSSIBLE);
            TimingLights y = oldLamp(colour, 19);
            Check.due("10: 999 hours", y.print(), 0);
            Check.due("10: its age", y.ofLamp(colour, 0), 999);
            Check.due("10: the next one's age", y.ofLamp((colour + 1) % 3, 0), 19);
            Check.due("10: not older", y.print(), NOT_POSSIBLE);
            Check.due("10: the old lamp", y.lamp(colour), 999);
            Check.due("10: with a new one", y.print(), 0);
        }
    }

    /** One lamp of 980 hours, two new ones, and shots of 1881 feet and a last one's, which has 19 for 19 hours more. */
    private static TimingLights oldLamp(int old, int feet) {
        TimingLights x = Reels.printed(20, 99, 49);
        x.lamp((old + 1) % 3);
        x.lamp((old + 2) % 3);
        x.takeOut(19);
        x.shot(19, feet, 25, 25, 25);
        return x;
    }

    // ---- 11: correct

    /** "NO_SUCH if there is no such shot; NOT_POSSIBLE if it has no answer" */
    private static void correctRefused() {
        for (int place : WRONG_PLACES) {
            refused("11: place " + place, x -> x.correct(place), NO_SUCH);
        }
        refusedIfEmpty("11: place 0", x -> x.correct(0), NO_SUCH);
        refusedIfFull("11: place 20", x -> x.correct(20), NO_SUCH);
        refused("11: a shot that came", x -> x.correct(3), NOT_POSSIBLE);
        Twins.unchanged("11: no print yet", () -> Check.reel(2, 10), x -> x.correct(1), NOT_POSSIBLE);
        Twins.unchanged("11: corrected already", () -> changed(0), x -> x.correct(1), NOT_POSSIBLE);
        Twins.unchanged("11: all bad ones are corrected", () -> changed(1), x -> x.correct(0), NOT_POSSIBLE);
        Twins.unchanged("11: split, the first", () -> changed(2), x -> x.correct(1), NOT_POSSIBLE);
        Twins.unchanged("11: split, the second", () -> changed(2), x -> x.correct(2), NOT_POSSIBLE);
        Twins.unchanged("11: joined", () -> changed(3), x -> x.correct(0), NOT_POSSIBLE);
        Twins.unchanged("11: moved without an answer", () -> changed(4), x -> x.correct(0), NOT_POSSIBLE);
        Check.due("11: moved with its answer", changed(5).correct(3), 26);
    }

    private static TimingLights changed(int how) {
        TimingLights x = Reels.rich();
        switch (how) {
            case 0:
                x.correct(1);
                return x;
            case 1:
                x.correctAll();
                return x;
            case 2:
                x.split(1, 20);
                return x;
            case 3:
                x.join(0);
                return x;
            case 4:
                x.move(3, 0);
                return x;
            default:
                x.move(0, 3);
                return x;
        }
    }

    /** "Returns by how many points its lights are really changed (behind their bounds), all colours together, .." */
    private static void correctReallyChanged() {
        for (int red = 0; red <= 50; red += 5) {
            for (int green = 0; green <= 50; green += 5) {
                TimingLights x = new TimingLights();
                x.shot(0, 10, 0, 50, 24);
                x.print();
                x.light(0, 0, red);
                x.light(0, 1, green);
                int points = Math.min(25, red) + Math.min(25, 50 - green) + 1;
                Check.due("11: 25 off " + red + ", 25 on " + green + ", 1 off blue", x.correct(0), points);
                Check.due("11: points so far", x.count(6), points);
                Check.due("11: red", x.inColour(0, 0, 2), Math.max(0, red - 25));
                Check.due("11: green", x.inColour(0, 1, 2), Math.min(50, green + 25));
                Check.due("11: blue", x.inColour(0, 2, 2), 24);
            }
        }
    }

    // ---- 12: correctAll

    /** "Corrects all bad shots by their answers."; "Returns how many that are." */
    private static void correctAllBounds() {
        Check.due("12: an empty reel", new TimingLights().correctAll(), 0);
        Check.due("12: no answers", Check.reel(3, 10).correctAll(), 0);
        for (int bad = 0; bad <= 20; bad++) {
            TimingLights x = Check.reel(20, 10);
            for (int place = 0; place < 20; place++) {
                x.light(place, place % 3, place < bad ? 27 : 26);
            }
            Check.due("12: bad ones", x.print(), bad);
            Check.due("12: corrected ones", x.correctAll(), bad);
            Check.due("12: points", x.count(6), 2 * bad);
            Check.due("12: answers that are left", x.count(4), 0xFFFFF & -1 << bad);
            Check.due("12: bad ones that are left", x.count(3), 0);
            Check.due("12: the last one's light", x.inColour(19, 1, 2), bad == 20 ? 25 : 26);
            Check.due("12: once more", x.correctAll(), 0);
        }
        for (int place = 0; place < 3; place++) {
            TimingLights x = Check.reel(3, 10);
            x.light(place, 0, 50);
            x.print();
            x.takeOut(place);
            Check.due("12: the bad one is out", x.correctAll(), 0);
            Check.due("12: no points", x.count(6), 0);
            x.undo();
            x.undo();
            Check.due("12: the bad one is in", x.correctAll(), 1);
        }
    }

    // ---- 13: card

    /** "Returns the trims then, together." */
    private static void cardBounds() {
        Check.due("13: new lamps", new TimingLights().card(), 0);
        TimingLights x = Reels.printed(1, 1, 39);
        x.set(TimingLights.RATE, 50);
        Check.due("13: 19 each", x.card(), 57);
        x.print();
        Check.due("13: 20 each", x.card(), 60);
        x.print();
        x.print();
        Check.due("13: 21 lost each", x.ofLamp(0, 1), 21);
        Check.due("13: 20 each at most", x.card(), 60);
        x.lamp(1);
        Check.due("13: none in green", x.card(), 40);
        Check.due("13: red", x.ofLamp(0, 2), 40);
        Check.due("13: green", x.ofLamp(1, 2), 20);
        Check.due("13: blue", x.ofLamp(2, 2), 40);
        Check.due("13: the lamps stay", x.ofLamp(2, 0), 42);
        Check.due("13: it is no print", x.count(2), 42);
        Check.due("13: nor a correction", x.count(6), 0);
        int[] rates = {0, 1, 2, 3, 50};
        int[] trims = {0, 9, 19, 20, 20};
        for (int i = 0; i < rates.length; i++) {
            TimingLights old = oldLamp(2, 19);
            old.print();
            old.set(TimingLights.RATE, rates[i]);
            Check.due("13: 999 hours, RATE " + rates[i], old.card(), trims[i] + 2 * (19 * rates[i] / 100));
            Check.due("13: the trim then", old.ofLamp(2, 2), 20 + trims[i]);
        }
    }

    // ---- 14: trim

    /** "BAD_VALUE if colour or points is out of range" */
    private static void trimRefused() {
        for (int colour : WRONG_COLOURS) {
            refused("14: colour " + colour, x -> x.trim(colour, 1), BAD_VALUE);
        }
        for (int points : Reels.outside(-20, 20)) {
            refused("14: points " + points, x -> x.trim(1, points), BAD_VALUE);
        }
        refusedIfEmpty("14: points 21", x -> x.trim(0, 21), BAD_VALUE);
        refusedIfEmpty("14: points -21", x -> x.trim(2, -21), BAD_VALUE);
    }

    /** "points: -20 to 20"; "Returns the previous one and 20" */
    private static void trimBounds() {
        for (int colour = 0; colour < 3; colour++) {
            TimingLights x = new TimingLights();
            for (int points = -20; points <= 20; points++) {
                Check.due("14: points " + points, x.trim(colour, points), points == -20 ? 20 : points + 19);
                Check.due("14: it stands", x.ofLamp(colour, 2), points + 20);
            }
            Check.due("14: the same again", x.trim(colour, 20), 40);
            Check.due("14: the next colour's", x.ofLamp((colour + 1) % 3, 2), 20);
            Check.due("14: the one behind that", x.ofLamp((colour + 2) % 3, 2), 20);
        }
    }

    // ---- 15: lamp

    /** "BAD_VALUE if there is no such colour" */
    private static void lampRefused() {
        for (int colour : WRONG_COLOURS) {
            refused("15: colour " + colour, x -> x.lamp(colour), BAD_VALUE);
            refusedIfEmpty("15: colour " + colour, x -> x.lamp(colour), BAD_VALUE);
        }
    }

    /** "Returns the age of the old one" */
    private static void lampBounds() {
        for (int colour = 0; colour < 3; colour++) {
            TimingLights x = oldLamp(colour, 19);
            x.print();
            x.set(TimingLights.RATE, 50);
            Check.due("15: it loses", x.ofLamp(colour, 1), 499);
            Check.due("15: the oldest", x.lamp(colour), 999);
            Check.due("15: a new one", x.lamp(colour), 0);
            Check.due("15: it loses nothing", x.ofLamp(colour, 1), 0);
            Check.due("15: the next one's age", x.ofLamp((colour + 1) % 3, 0), 19);
            Check.due("15: the one behind that", x.ofLamp((colour + 2) % 3, 0), 19);
        }
    }
}
