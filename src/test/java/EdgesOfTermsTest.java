/** "Terms", sentence by sentence: just inside and just outside of every boundary (texts: EdgesOfTextsTest). */
public final class EdgesOfTermsTest {
    private static final int[] LEAST = {1, 0, 1, 0};
    private static final int[] MOST = {5, 9, 40, 50};
    private static final int[] FIRST = {1, 1, 8, 10};

    public static void main(String[] args) {
        errorsComeInTheirOrder();
        noneOnlyIfNoErrorApplies();
        divisionsAreRoundedDown();
        setsAreBitMasks();
        settingsHaveRangesAndFirstValues();
        stepIsTheLeastChange();
        slackIsHowFarAShotMayBeOff();
        jumpIsNoJumpYet();
        rateIsHundredthsAnHour();
        upToTwentyShots();
        firstValuesOfAShot();
        firstValuesOfThePrinter();
        printsZeroAtLeast();
        printsFiftyAtMost();
        offIsLessTwentyFiveLessTheWish();
        hoursAreRoundedUp();
        aNewLampIsZeroHoursOld();
        noAnswerIfItCameBehindThePrint();
        noAnswerIfItWasSplitBehindThePrint();
        noAnswerIfItWasJoinedBehindThePrint();
        onlyWholeSteps();
        lightZeroAtLeast();
        lightFiftyAtMost();
        aCorrectionTakesTheAnswerAway();
        cardTwentyAtMost();
        badIfAboveSlackInSomeColour();
        jumpIfAboveJumpInSomeColour();
        theLastCallOfAll();
        Check.end();
    }

    /** "it names its errors in the order in which they are checked, and the first one that applies is returned" */
    private static void errorsComeInTheirOrder() {
        TimingLights x = Check.reel(20, 50);
        Check.due("shot: place ahead of value", x.shot(21, 0, 99, 99, 99), TimingLights.NO_SUCH);
        Check.due("shot: place ahead of too many", x.shot(21, 1, 1, 1, 1), TimingLights.NO_SUCH);
        Check.due("shot: feet ahead of too many", x.shot(20, 100, 1, 1, 1), TimingLights.BAD_VALUE);
        Check.due("shot: red ahead of too many", x.shot(20, 1, 51, 1, 1), TimingLights.BAD_VALUE);
        Check.due("shot: green ahead of too many", x.shot(0, 1, 1, -1, 1), TimingLights.BAD_VALUE);
        Check.due("shot: blue ahead of too many", x.shot(0, 1, 1, 1, 51), TimingLights.BAD_VALUE);
        Check.due("light: place ahead of colour", x.light(20, 3, 0), TimingLights.NO_SUCH);
        Check.due("light: place ahead of points", x.light(20, 0, 51), TimingLights.NO_SUCH);
        Check.due("wish: place ahead of colour", x.wish(-1, 3, 0), TimingLights.NO_SUCH);
        Check.due("wish: place ahead of points", x.wish(-1, 0, 11), TimingLights.NO_SUCH);
        Check.due("split: place ahead of feet", x.split(20, 0), TimingLights.NO_SUCH);
        Check.due("split: place ahead of too many", x.split(20, 1), TimingLights.NO_SUCH);
        Check.due("split: 0 feet ahead of too many", x.split(0, 0), TimingLights.BAD_VALUE);
        Check.due("split: 99 feet ahead of not longer", x.split(0, 99), TimingLights.BAD_VALUE);
        Check.due("split: not longer ahead of too many", x.split(0, 50), TimingLights.NOT_POSSIBLE);
        Check.due("join: none behind it ahead of too long", x.join(19), TimingLights.NO_SUCH);
        Check.due("correct: no such shot ahead of no answer", x.correct(20), TimingLights.NO_SUCH);
        Check.due("of: place ahead of what", x.of(20, 5), TimingLights.NO_SUCH);
        Check.due("inColour: place ahead of colour", x.inColour(20, 3, 0), TimingLights.NO_SUCH);
        Check.due("inColour: place ahead of what", x.inColour(20, 0, 6), TimingLights.NO_SUCH);
        Check.due("needs: place ahead of colour", x.needs(20, 3), TimingLights.NO_SUCH);
        Check.due("ifLight: place ahead of colour", x.ifLight(-1, -1, 0), TimingLights.NO_SUCH);
        Check.due("ifLight: place ahead of points", x.ifLight(-1, 0, -1), TimingLights.NO_SUCH);
        Check.due("restore: slot ahead of nothing saved", x.restore(2), TimingLights.BAD_VALUE);
        Check.type(x, "p".repeat(80));
        Check.due("put: no character ahead of too many", x.put(0), TimingLights.BAD_VALUE);
        Check.due("put: a bad code ahead of too many", x.put(' '), TimingLights.BAD_VALUE);
        Check.due("put: too many", x.put('p'), TimingLights.TOO_MANY);
    }

    /** "NONE (-6) is not an error; it is returned only if no error applies." */
    private static void noneOnlyIfNoErrorApplies() {
        TimingLights x = new TimingLights();
        x.shot(0, 10, 50, 25, 0);
        x.trim(0, -1);
        x.trim(2, 1);
        Check.due("no answer", x.inColour(0, 0, 5), TimingLights.NONE);
        Check.due("no such shot has no answer", x.inColour(1, 0, 5), TimingLights.NO_SUCH);
        Check.due("no such colour has no answer", x.inColour(0, 3, 5), TimingLights.BAD_VALUE);
        Check.due("needs 51", x.needs(0, 0), TimingLights.NONE);
        Check.due("needs -1", x.needs(0, 2), TimingLights.NONE);
        Check.due("no such shot needs a light", x.needs(1, 0), TimingLights.NO_SUCH);
        Check.due("no such colour needs a light", x.needs(0, 3), TimingLights.BAD_VALUE);
        TimingLights y = new TimingLights();
        Check.due("lasts without a shot", y.lasts(0), TimingLights.NONE);
        Check.due("lasts in no such colour", y.lasts(3), TimingLights.BAD_VALUE);
        Check.due("prints needed without a shot", y.printsNeeded(), TimingLights.NOT_POSSIBLE);
    }

    /** "Divisions are rounded down." */
    private static void divisionsAreRoundedDown() {
        int[] rates = {1, 2, 3, 4, 5, 10, 19, 20, 21, 33, 34, 49, 50};
        for (int hours : new int[] {1, 2, 3, 5, 9, 10, 11, 20, 33, 50, 99, 100}) {
            TimingLights x = Reels.printed(1, 1, hours);
            Check.due("age", x.ofLamp(0, 0), hours);
            for (int rate : rates) {
                x.set(TimingLights.RATE, rate);
                int loss = 0;
                while ((loss + 1) * 100 <= hours * rate) {
                    loss++;
                }
                Check.due(hours + " hours of " + rate + " hundredths", x.ofLamp(0, 1), loss);
                Check.due("it prints less by " + loss, x.inColour(0, 0, 3), Math.max(0, 25 - loss));
            }
        }
    }

    /** "Sets of shots (by their places) and colours are bit masks." */
    private static void setsAreBitMasks() {
        TimingLights x = Check.reel(20, 50);
        for (int place : new int[] {0, 1, 18, 19}) {
            TimingLights y = Check.reel(20, 50);
            y.light(place, 1, 50);
            y.print();
            Check.due("bad is " + place, y.count(3), 1 << place);
            Check.due("off is " + place, y.count(7), 1 << place);
            Check.due("the jumps at " + place, y.count(5), (1 << place | 1 << place >> 1) & 0x7FFFF);
            y.correct(place);
            Check.due("all but " + place + " have an answer", y.count(4), 0xFFFFF - (1 << place));
        }
        Check.due("none is off", x.count(7), 0);
        Check.due("none jumps", x.count(5), 0);
    }

    /** "(In parentheses: range; first value.) STEP (1 to 5; 1) .. SLACK (0 to 9; 1) .. JUMP (1 to 40; 8) .. RATE .." */
    private static void settingsHaveRangesAndFirstValues() {
        for (int setting = 0; setting < 4; setting++) {
            Check.due("first value of " + setting, new TimingLights().count(8 + setting), FIRST[setting]);
            for (int value = LEAST[setting]; value <= MOST[setting]; value++) {
                TimingLights x = new TimingLights();
                Check.due("set(" + setting + ", " + value + ")", x.set(setting, value), FIRST[setting]);
                for (int other = 0; other < 4; other++) {
                    Check.due(other + " after set(" + setting + ", " + value + ")", x.count(8 + other),
                            other == setting ? value : FIRST[other]);
                }
            }
        }
    }

    /** "STEP ..: points by which lights are changed, at least" */
    private static void stepIsTheLeastChange() {
        for (int step = 1; step <= 5; step++) {
            for (int answer = step - 1; answer <= step + 1; answer++) {
                TimingLights x = new TimingLights();
                x.set(TimingLights.STEP, step);
                x.set(TimingLights.SLACK, 0);
                x.shot(0, 10, 25 + answer, 25, 25 - answer);
                x.print();
                x.correct(0);
                int moved = answer < step ? 0 : step == 1 ? answer : step;
                Check.due("step " + step + ", too dark by " + answer, x.inColour(0, 0, 2), 25 + moved);
                Check.due("step " + step + ", too bright by " + answer, x.inColour(0, 2, 2), 25 - moved);
            }
        }
    }

    /** "SLACK ..: points by which a shot may be off" */
    private static void slackIsHowFarAShotMayBeOff() {
        for (int slack = 0; slack <= 9; slack++) {
            for (int colour = 0; colour < 3; colour++) {
                for (int sign = -1; sign <= 1; sign += 2) {
                    String name = "slack " + slack + ", colour " + colour + ", sign " + sign;
                    TimingLights x = Reels.oneShot(10, colour, 25 + sign * slack);
                    x.set(TimingLights.SLACK, slack);
                    Check.due(name + ": off by it", x.count(7), 0);
                    Check.due(name + ": printed", x.print(), 0);
                    TimingLights y = Reels.oneShot(10, colour, 25 + sign * (slack + 1));
                    y.set(TimingLights.SLACK, slack);
                    Check.due(name + ": off by more", y.count(7), 1);
                    Check.due(name + ": printed with more", y.print(), 1);
                }
            }
        }
    }

    /** "JUMP ..: points from shot to shot that are no jump yet" */
    private static void jumpIsNoJumpYet() {
        for (int jump : new int[] {1, 2, 7, 8, 9, 39, 40}) {
            for (int difference = jump; difference <= jump + 1; difference++) {
                TimingLights x = new TimingLights();
                x.shot(0, 10, 0, 25, 25);
                x.shot(1, 10, 0, 25, 25);
                x.trim(0, -20);
                x.light(0, 0, 0);
                x.light(1, 0, difference);
                x.set(TimingLights.JUMP, jump);
                Check.due("a difference of " + difference + ", JUMP " + jump, x.of(0, 4), difference - jump);
                x.move(0, 1);
                Check.due("as much less, JUMP " + jump, x.count(5), difference - jump);
            }
        }
    }

    /** "RATE (0 to 50; 10): hundredths of a point that a lamp loses in an hour" */
    private static void rateIsHundredthsAnHour() {
        TimingLights x = Reels.printed(1, 100 - 1, 200);
        Check.due("RATE 0", x.ofLamp(1, 1), 0);
        x.set(TimingLights.RATE, 1);
        Check.due("RATE 1 in 200 hours", x.ofLamp(1, 1), 2);
        x.set(TimingLights.RATE, 10);
        Check.due("RATE 10 in 200 hours", x.ofLamp(1, 1), 20);
        x.set(TimingLights.RATE, 50);
        Check.due("RATE 50 in 200 hours", x.ofLamp(1, 1), 100);
    }

    /** "The reel has up to 20 shots in a row, told by their places, 0 on." */
    private static void upToTwentyShots() {
        TimingLights x = Check.reel(19, 3);
        Check.due("place 18 of 19", x.of(18, 0), 3);
        Check.due("place 19 of 19", x.of(19, 0), TimingLights.NO_SUCH);
        Check.due("the twentieth", x.shot(19, 99, 0, 50, 0), 20);
        Check.due("place 19 of 20", x.of(19, 0), 99);
        Check.due("place 20 of 20", x.of(20, 0), TimingLights.NO_SUCH);
        Check.due("place -1", x.of(-1, 0), TimingLights.NO_SUCH);
        Twins.unchanged("a shot more", () -> Check.reel(20, 3), y -> y.shot(20, 3, 25, 25, 25), TimingLights.TOO_MANY);
    }

    /** "a wish (-10 to 10; 0 at first) and a light (0 to 50; 25 at first)" */
    private static void firstValuesOfAShot() {
        for (int place = 0; place < 3; place++) {
            TimingLights x = Check.reel(2, 40);
            for (int colour = 0; colour < 3; colour++) {
                x.light(1, colour, 50 - colour);
                x.wish(1, colour, colour - 10);
            }
            x.shot(place, 1, 0, 50, 25);
            for (int colour = 0; colour < 3; colour++) {
                Check.due("wish at first, place " + place, x.inColour(place, colour, 1), 10);
                Check.due("light at first, place " + place, x.inColour(place, colour, 2), 25);
            }
        }
    }

    /** "a lamp with its age in hours (0 at first) .. and a trim (-20 to 20; 0 at first)" */
    private static void firstValuesOfThePrinter() {
        TimingLights x = new TimingLights();
        for (int colour = 0; colour < 3; colour++) {
            Check.due("age at first", x.ofLamp(colour, 0), 0);
            Check.due("loss at first", x.ofLamp(colour, 1), 0);
            Check.due("trim at first", x.ofLamp(colour, 2), 20);
        }
    }

    /** "but 0 at least" */
    private static void printsZeroAtLeast() {
        for (int colour = 0; colour < 3; colour++) {
            for (int sum = -2; sum <= 2; sum++) {
                TimingLights x = Reels.oneShot(10, colour, 40);
                x.trim(colour, -5);
                x.light(0, colour, 20 + sum);
                Check.due("a sum of " + sum, x.inColour(0, colour, 3), Math.max(0, sum));
                Check.due("off by it", x.inColour(0, colour, 4), 75 + Math.max(0, sum));
                Check.due("as another light", x.ifLight(0, colour, 20 + sum), Math.max(0, sum));
            }
        }
    }

    /** "and 50 at most" */
    private static void printsFiftyAtMost() {
        for (int colour = 0; colour < 3; colour++) {
            for (int sum = 48; sum <= 52; sum++) {
                TimingLights x = Reels.oneShot(10, colour, 10);
                x.trim(colour, 5);
                x.light(0, colour, sum - 20);
                Check.due("a sum of " + sum, x.inColour(0, colour, 3), Math.min(50, sum));
                Check.due("off by it", x.inColour(0, colour, 4), 75 + Math.min(50, sum));
                Check.due("as another light", x.ifLight(0, colour, sum - 20), Math.min(50, sum));
            }
        }
    }

    /** "It is off by that, less 25, less its wish." */
    private static void offIsLessTwentyFiveLessTheWish() {
        TimingLights x = new TimingLights();
        x.shot(0, 10, 50, 0, 25);
        x.wish(0, 0, 10);
        x.wish(0, 1, -10);
        Check.due("the least", x.inColour(0, 0, 4), 65);
        Check.due("the most", x.inColour(0, 1, 4), 135);
        Check.due("by nothing", x.inColour(0, 2, 4), 100);
        x.wish(0, 2, 10);
        Check.due("by the greatest wish", x.inColour(0, 2, 4), 90);
        x.wish(0, 2, -10);
        Check.due("by the least wish", x.inColour(0, 2, 4), 110);
    }

    /** "then each lamp is older by the feet of all shots / 100, rounded up" */
    private static void hoursAreRoundedUp() {
        int[] feet = {1, 2, 50, 98, 99, 100, 101, 102, 199, 200, 201, 300, 301, 1900, 1901, 1979, 1980};
        int[] hours = {1, 1, 1, 1, 1, 1, 2, 2, 2, 2, 3, 3, 4, 19, 20, 20, 20};
        for (int i = 0; i < feet.length; i++) {
            TimingLights x = new TimingLights();
            for (int left = feet[i], place = 0; left > 0; left -= 99, place++) {
                x.shot(place, Math.min(99, left), 25, 25, 25);
            }
            Check.due("the feet", x.count(1), feet[i]);
            x.print();
            for (int colour = 0; colour < 3; colour++) {
                Check.due(feet[i] + " feet", x.ofLamp(colour, 0), hours[i]);
            }
            x.print();
            Check.due(feet[i] + " feet twice", x.ofLamp(0, 0), 2 * hours[i]);
        }
    }

    /** "(a new lamp is 0 hours old)" */
    private static void aNewLampIsZeroHoursOld() {
        TimingLights x = Reels.printed(1, 1, 30);
        for (int colour = 0; colour < 3; colour++) {
            Check.due("the old lamp", x.lamp(colour), 30);
            Check.due("the new lamp", x.ofLamp(colour, 0), 0);
            Check.due("put in again", x.lamp(colour), 0);
        }
        x.print();
        Check.due("a print later", x.ofLamp(2, 0), 1);
    }

    /** "A shot that came .. behind the latest print has no answer." */
    private static void noAnswerIfItCameBehindThePrint() {
        for (int place = 0; place <= 3; place++) {
            TimingLights x = Check.reel(3, 10);
            x.print();
            x.shot(place, 10, 1, 1, 1);
            Check.due("came at " + place, x.count(4), 0b1111 - (1 << place));
            Check.due("no answer", x.of(place, 2), 0);
            Check.due("no answer in a colour", x.inColour(place, 0, 5), TimingLights.NONE);
            Check.due("not bad", x.of(place, 3), 0);
            x.print();
            Check.due("ahead of the latest print", x.count(4), 0b1111);
        }
    }

    /** "A shot that .. was split .. behind the latest print has no answer." */
    private static void noAnswerIfItWasSplitBehindThePrint() {
        for (int place = 0; place < 3; place++) {
            TimingLights x = Check.reel(3, 10);
            x.light(place, 1, 50);
            x.print();
            x.split(place, 1);
            Check.due("split at " + place, x.count(4), 0b1111 - (0b11 << place));
            Check.due("none of both is bad", x.count(3), 0);
            x.print();
            Check.due("ahead of the latest print", x.count(4), 0b1111);
            Check.due("both are bad", x.count(3), 0b11 << place);
        }
    }

    /** "A shot that .. was joined behind the latest print has no answer." */
    private static void noAnswerIfItWasJoinedBehindThePrint() {
        for (int place = 0; place < 3; place++) {
            TimingLights x = Check.reel(4, 10);
            x.light(place, 1, 50);
            x.print();
            x.join(place);
            Check.due("joined at " + place, x.count(4), 0b111 - (1 << place));
            Check.due("not bad", x.count(3), 0);
            x.print();
            Check.due("ahead of the latest print", x.count(4), 0b111);
            Check.due("bad", x.count(3), 1 << place);
        }
    }

    /** "only by the greatest number of whole STEPs of it that is not more than the answer, without its sign" */
    private static void onlyWholeSteps() {
        for (int step = 1; step <= 5; step++) {
            for (int answer = 0; answer <= 11; answer++) {
                int moved = 0;
                while (moved + step <= answer) {
                    moved += step;
                }
                TimingLights x = new TimingLights();
                x.set(TimingLights.STEP, step);
                x.shot(0, 10, 25 - answer, 25, 25 + answer);
                x.print();
                Check.due("points of " + answer + " in steps of " + step, x.correct(0), 2 * moved);
                Check.due("down in steps of " + step, x.inColour(0, 0, 2), 25 - moved);
                Check.due("not at all", x.inColour(0, 1, 2), 25);
                Check.due("up in steps of " + step, x.inColour(0, 2, 2), 25 + moved);
                Check.due("points so far", x.count(6), 2 * moved);
            }
        }
    }

    /** "and 0 at least" */
    private static void lightZeroAtLeast() {
        for (int light = 0; light <= 12; light++) {
            TimingLights x = Reels.oneShot(10, 1, 15);
            x.print();
            x.light(0, 1, light);
            Check.due("10 points off " + light, x.correct(0), Math.min(10, light));
            Check.due("the light", x.inColour(0, 1, 2), Math.max(0, light - 10));
            Check.due("points so far", x.count(6), Math.min(10, light));
        }
    }

    /** "50 at most" */
    private static void lightFiftyAtMost() {
        for (int light = 38; light <= 50; light++) {
            TimingLights x = Reels.oneShot(10, 2, 35);
            x.print();
            x.light(0, 2, light);
            Check.due("10 points more than " + light, x.correct(0), Math.min(10, 50 - light));
            Check.due("the light", x.inColour(0, 2, 2), Math.min(50, light + 10));
            Check.due("points so far", x.count(6), Math.min(10, 50 - light));
        }
    }

    /** "(A correction takes the answer away: the shot has none then.)" */
    private static void aCorrectionTakesTheAnswerAway() {
        for (int off : new int[] {0, 1, 2, 25}) {
            TimingLights x = Check.reel(3, 10);
            x.light(1, 0, 25 - off);
            x.print();
            Check.due("all have an answer", x.count(4), 0b111);
            Check.due("off by " + off, x.correct(1), off);
            Check.due("one has none", x.count(4), 0b101);
            Check.due("none in a colour", x.inColour(1, 2, 5), TimingLights.NONE);
            Check.due("not twice", x.correct(1), TimingLights.NOT_POSSIBLE);
            x.print();
            Check.due("a new answer", x.count(4), 0b111);
        }
    }

    /** "in each colour the trim becomes what the lamp loses, but 20 at most" */
    private static void cardTwentyAtMost() {
        for (int hours = 38; hours <= 44; hours++) {
            TimingLights x = Reels.printed(1, 1, hours);
            x.set(TimingLights.RATE, 50);
            x.trim(0, -20);
            x.trim(1, 20);
            Check.due("the loss of " + hours + " hours", x.ofLamp(0, 1), hours / 2);
            Check.due("the card after " + hours + " hours", x.card(), 3 * Math.min(20, hours / 2));
            for (int colour = 0; colour < 3; colour++) {
                Check.due("the trim after " + hours + " hours", x.ofLamp(colour, 2), 20 + Math.min(20, hours / 2));
            }
        }
    }

    /** "A shot is bad if it has an answer that is more than SLACK, without its sign, in some colour." */
    private static void badIfAboveSlackInSomeColour() {
        for (int colour = 0; colour < 3; colour++) {
            for (int off = -3; off <= 3; off++) {
                TimingLights x = Check.reel(1, 10);
                x.set(TimingLights.SLACK, 2);
                x.light(0, colour, 25 + off);
                int bad = Math.abs(off) == 3 ? 1 : 0;
                Check.due("not without an answer", x.of(0, 3), 0);
                Check.due("bad ones of an answer of " + off, x.print(), bad);
                Check.due("bad with an answer of " + off, x.of(0, 3), bad);
                Check.due("the set with an answer of " + off, x.count(3), bad);
                x.light(0, colour, 25);
                Check.due("it is the answer that counts", x.of(0, 3), bad);
                x.set(TimingLights.SLACK, 3);
                Check.due("good with SLACK 3", x.of(0, 3), 0);
                x.set(TimingLights.SLACK, 2);
                Check.due("it is the SLACK of now that counts", x.count(3), bad);
            }
        }
    }

    /** "there is a jump if they print, as they are now, with a difference above JUMP in some colour" */
    private static void jumpIfAboveJumpInSomeColour() {
        for (int colour = 0; colour < 3; colour++) {
            for (int difference = -9; difference <= 9; difference++) {
                TimingLights x = Check.reel(2, 10);
                x.light(1, colour, 25 + difference);
                int jump = Math.abs(difference) == 9 ? 1 : 0;
                Check.due("a difference of " + difference, x.of(0, 4), jump);
                Check.due("the set with " + difference, x.count(5), jump);
                Check.due("none behind the last shot", x.of(1, 4), 0);
                x.wish(1, colour, -difference);
                Check.due("the wish does not count", x.of(0, 4), jump);
            }
        }
        TimingLights y = new TimingLights();
        y.shot(0, 10, 0, 50, 25);
        y.shot(1, 10, 0, 50, 25);
        y.light(0, 0, 50);
        y.light(0, 1, 0);
        Check.due("they print alike beyond 0 and 50", y.of(0, 4), 0);
        TimingLights z = new TimingLights();
        z.shot(0, 10, 10, 10, 10);
        z.shot(1, 10, 40, 40, 40);
        z.set(TimingLights.JUMP, 1);
        Check.due("densities that differ", z.print() * 10 + z.of(0, 4), 21);
        for (int colour = 0; colour < 3; colour++) {
            z.light(0, colour, 20);
            z.light(1, colour, 50);
            z.wish(0, colour, -10);
            z.wish(1, colour, 10);
        }
        Check.due("they print alike, whatever lights, wishes and answers are", z.of(0, 4), 0);
        Check.due("the set then", z.count(5), 0);
        z.light(0, 1, 22);
        Check.due("by 2 points in green", z.of(0, 4), 1);
    }

    /** "An object is used for at most 512 calls after it has been made" */
    private static void theLastCallOfAll() {
        TimingLights x = Check.reel(20, 99);
        for (int call = 21; call <= 509; call++) {
            Check.due("call " + call, x.light(call % 20, 0, call % 51), call < 41 ? 25 : (call - 20) % 51);
        }
        Check.due("call 510", x.print(), 20);
        Check.due("call 511", x.count(13), 6);
        Check.due("call 512", x.undo(), 5);
    }
}
