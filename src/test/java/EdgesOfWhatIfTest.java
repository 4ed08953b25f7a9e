import java.util.function.ToIntFunction;

/** Promises 20 to 24, sentence by sentence: just inside and just outside of every boundary; and nothing changes. */
public final class EdgesOfWhatIfTest {
    private static final int NO_SUCH = TimingLights.NO_SUCH, BAD_VALUE = TimingLights.BAD_VALUE;
    private static final int NOT_POSSIBLE = TimingLights.NOT_POSSIBLE, NONE = TimingLights.NONE;
    private static final int[] WRONG_COLOURS = Reels.outside(0, 2);
    private static final int[] WRONG_PLACES = Reels.outside(0, 3);

    public static void main(String[] args) {
        needsRefused();
        needsZeroToFifty();
        needsToBeOffByNothing();
        ifLightRefused();
        ifLightZeroToFifty();
        lastsRefused();
        lastsZeroIfItIsSoNow();
        lastsWithinFiveHundred();
        lastsUntilTheLossIsWhole();
        lastsForSomeShot();
        bestTrimRefused();
        bestTrimTwentyAtMost();
        bestTrimNearestToZero();
        bestTrimOfAllTrims();
        printsNeededWithoutAShot();
        printsNeededWithinTwenty();
        printsNeededAsByCalls();
        printsNeededWithOldLamps();
        Check.end();
    }

    private static void unchanged(String name, ToIntFunction<TimingLights> call, int due) {
        Twins.unchanged(name, Reels::rich, call, due);
    }

    // ---- 20: needs

    /** "NO_SUCH if there is no such shot; BAD_VALUE if there is no such colour" */
    private static void needsRefused() {
        for (int place : WRONG_PLACES) {
            unchanged("20: place " + place, x -> x.needs(place, 0), NO_SUCH);
        }
        for (int colour : WRONG_COLOURS) {
            unchanged("20: colour " + colour, x -> x.needs(0, colour), BAD_VALUE);
        }
        Check.due("20: no shot", new TimingLights().needs(0, 0), NO_SUCH);
        Check.due("20: place 19 of 20", Check.reel(20, 10).needs(19, 2), 25);
        Check.due("20: place 20 of 20", Check.reel(20, 10).needs(20, 2), NO_SUCH);
    }

    /** "Returns the light; .. NONE if it is not 0 to 50." */
    private static void needsZeroToFifty() {
        for (int colour = 0; colour < 3; colour++) {
            for (int more = -2; more <= 2; more++) {
                TimingLights x = Reels.oneShot(10, colour, 0);
                x.wish(0, colour, 3);
                x.trim(colour, 3 - more);
                Check.due("20: 0 and " + more, x.needs(0, colour), more < 0 ? NONE : more);
                TimingLights y = Reels.oneShot(10, colour, 50);
                y.wish(0, colour, -3);
                y.trim(colour, -3 - more);
                Check.due("20: 50 and " + more, y.needs(0, colour), more > 0 ? NONE : 50 + more);
            }
            TimingLights z = Reels.printed(20, 50, 10);
            z.set(TimingLights.RATE, 24);
            Check.due("20: what 100 hours take", z.needs(19, colour), 49);
            z.set(TimingLights.RATE, 25);
            Check.due("20: a point more", z.needs(19, colour), 50);
            z.set(TimingLights.RATE, 26);
            Check.due("20: two points more", z.needs(19, colour), NONE);
        }
        unchanged("20: a light", x -> x.needs(0, 1), 21);
    }

    /** "Tells which light a shot needs in a colour to be off by nothing now." */
    private static void needsToBeOffByNothing() {
        for (int wish = -10; wish <= 10; wish++) {
            for (int trim = -20; trim <= 20; trim += 5) {
                TimingLights x = Reels.printed(3, 50, 3);
                x.set(TimingLights.RATE, 50);
                x.wish(1, 2, wish);
                x.trim(2, trim);
                int light = 25 + wish + 3 - trim;
                boolean possible = light >= 0 && light <= 50;
                Check.due("20: wish " + wish + ", trim " + trim, x.needs(1, 2), possible ? light : NONE);
                if (possible) {
                    x.light(1, 2, light);
                    Check.due("20: off by nothing then", x.inColour(1, 2, 4), 100);
                    Check.due("20: the same light then", x.needs(1, 2), light);
                }
            }
        }
    }

    // ---- 21: ifLight

    /** "NO_SUCH if there is no such shot; BAD_VALUE if colour or points is out of range" */
    private static void ifLightRefused() {
        for (int place : WRONG_PLACES) {
            unchanged("21: place " + place, x -> x.ifLight(place, 0, 1), NO_SUCH);
        }
        for (int colour : WRONG_COLOURS) {
            unchanged("21: colour " + colour, x -> x.ifLight(0, colour, 1), BAD_VALUE);
        }
        for (int points : Reels.outside(0, 50)) {
            unchanged("21: points " + points, x -> x.ifLight(0, 1, points), BAD_VALUE);
        }
        Check.due("21: no shot", new TimingLights().ifLight(0, 0, 25), NO_SUCH);
        Check.due("21: place 19 of 20", Check.reel(20, 10).ifLight(19, 2, 26), 26);
        Check.due("21: place 20 of 20", Check.reel(20, 10).ifLight(20, 2, 26), NO_SUCH);
    }

    /** "points: 0 to 50"; "Returns as what" */
    private static void ifLightZeroToFifty() {
        for (int colour = 0; colour < 3; colour++) {
            for (int points = 0; points <= 50; points++) {
                TimingLights x = Reels.printed(2, 100 - 1, 10);
                x.set(TimingLights.RATE, 50);
                x.trim(colour, 2);
                x.wish(1, colour, 9);
                int prints = Math.min(50, Math.max(0, points + 2 - 10));
                Check.due("21: points " + points, x.ifLight(1, colour, points), prints);
                Check.due("21: it stays", x.inColour(1, colour, 2), 25);
                x.light(1, colour, points);
                Check.due("21: it prints so then", x.inColour(1, colour, 3), prints);
            }
        }
        unchanged("21: the least", x -> x.ifLight(0, 2, 0), 0);
        unchanged("21: the most", x -> x.ifLight(0, 2, 50), 46);
    }

    // ---- 22: lasts

    /** "BAD_VALUE if there is no such colour" */
    private static void lastsRefused() {
        for (int colour : WRONG_COLOURS) {
            unchanged("22: colour " + colour, x -> x.lasts(colour), BAD_VALUE);
            Check.due("22: no shot, colour " + colour, new TimingLights().lasts(colour), BAD_VALUE);
        }
        for (int colour = 0; colour < 3; colour++) {
            Check.due("22: no shot", new TimingLights().lasts(colour), NONE);
        }
    }

    /** "be it that the light would be above 50 or below 0 (with the trim as it is)"; "(0 if it is so now)" */
    private static void lastsZeroIfItIsSoNow() {
        for (int colour = 0; colour < 3; colour++) {
            TimingLights above = Reels.oneShot(10, colour, 50);
            Check.due("22: 50 now", above.lasts(colour), 10);
            above.trim(colour, -1);
            Check.due("22: 51 now", above.lasts(colour), 0);
            above.trim(colour, 1);
            Check.due("22: 49 now", above.lasts(colour), 20);
            TimingLights below = Reels.oneShot(10, colour, 0);
            below.set(TimingLights.RATE, 50);
            Check.due("22: 0 now", below.lasts(colour), 102);
            below.trim(colour, 1);
            Check.due("22: -1 now", below.lasts(colour), 0);
            below.set(TimingLights.RATE, 0);
            Check.due("22: -1 always", below.lasts(colour), 0);
            below.trim(colour, 0);
            Check.due("22: 0 always", below.lasts(colour), NONE);
            TimingLights old = Reels.printed(1, 1, 2);
            old.set(TimingLights.RATE, 50);
            old.trim(0, 20);
            old.wish(0, 0, -6);
            Check.due("22: the loss of now lifts it to 0", old.lasts(0), 102);
            old.lamp(0);
            Check.due("22: a new lamp does not", old.lasts(0), 0);
        }
        unchanged("22: so many", x -> x.lasts(2), 44);
    }

    /** "NONE if it is not within 500" */
    private static void lastsWithinFiveHundred() {
        for (int hours = 0; hours <= 12; hours++) {
            TimingLights x = Reels.printed(1, 1, hours);
            x.shot(1, 1, 0, 1, 2);
            x.takeOut(0);
            x.set(TimingLights.RATE, 10);
            Check.due("22: 51 points, " + hours + " hours old", x.lasts(0), hours < 10 ? NONE : 510 - hours);
            Check.due("22: 50 points, " + hours + " hours old", x.lasts(1), 500 - hours);
            Check.due("22: 49 points, " + hours + " hours old", x.lasts(2), 490 - hours);
        }
        TimingLights old = Reels.printed(20, 99, 48);
        old.set(TimingLights.RATE, 1);
        old.wish(7, 1, 10);
        old.trim(1, -1);
        Check.due("22: 1500 - 960 hours", old.lasts(1), NONE);
        old.trim(1, -2);
        Check.due("22: 1400 - 960 hours", old.lasts(1), 440);
        old.trim(1, -6);
        Check.due("22: beyond 999 hours", old.lasts(1), 40);
        old.trim(1, -7);
        Check.due("22: it is so at 960 hours", old.lasts(1), 0);
    }

    private static void lastsUntilTheLossIsWhole() {
        for (int rate = 0; rate <= 50; rate++) {
            for (int density = 0; density <= 50; density += 5) {
                TimingLights x = Reels.oneShot(10, 0, density);
                x.set(TimingLights.RATE, rate);
                int hours = 0;
                while (hours <= 500 && hours * rate < (51 - density) * 100) {
                    hours++;
                }
                Check.due("22: " + (51 - density) + " points, RATE " + rate, x.lasts(0), hours > 500 ? NONE : hours);
            }
        }
    }

    /** "needs() would be NONE for some shot in a colour" */
    private static void lastsForSomeShot() {
        for (int place = 0; place < 20; place++) {
            for (int colour = 0; colour < 3; colour++) {
                TimingLights x = Check.reel(20, 10);
                x.wish(place, colour, 10);
                Check.due("22: the wish of " + place, x.lasts(colour), 160);
                Check.due("22: not in the next colour", x.lasts((colour + 1) % 3), 260);
                x.trim(colour, 20);
                x.wish(place, colour, -5);
                Check.due("22: 0 now", x.lasts(colour), 460);
                x.wish(place, colour, -6);
                Check.due("22: -1 now", x.lasts(colour), 0);
            }
        }
    }

    // ---- 23: bestTrim

    /** "BAD_VALUE if colour or what is out of range" */
    private static void bestTrimRefused() {
        for (int colour : WRONG_COLOURS) {
            unchanged("23: colour " + colour, x -> x.bestTrim(colour, 0), BAD_VALUE);
        }
        for (int what : Reels.outside(0, 1)) {
            unchanged("23: what " + what, x -> x.bestTrim(0, what), BAD_VALUE);
        }
        TimingLights none = new TimingLights();
        for (int colour = 0; colour < 3; colour++) {
            Check.due("23: no shot", none.bestTrim(colour, 0), 20);
            Check.due("23: how far no shot is off", none.bestTrim(colour, 1), 0);
        }
        Check.due("23: no shot, colour 3", none.bestTrim(3, 0), BAD_VALUE);
        Check.due("23: no shot, what 2", none.bestTrim(2, 2), BAD_VALUE);
    }

    /** "Finds the trim of a colour, -20 to 20" */
    private static void bestTrimTwentyAtMost() {
        for (int colour = 0; colour < 3; colour++) {
            for (int wanted = -24; wanted <= 24; wanted++) {
                TimingLights x = Reels.oneShot(10, colour, 25 + wanted);
                int best = Math.max(-20, Math.min(20, wanted));
                int off = Math.abs(wanted - best);
                Check.due("23: " + wanted + " is wanted", x.bestTrim(colour, 0), 20 + best);
                Check.due("23: how far off with it", x.bestTrim(colour, 1), off);
                Check.due("23: the next colour's", x.bestTrim((colour + 1) % 3, 0), 20);
            }
        }
        unchanged("23: the trim", x -> x.bestTrim(0, 0), 20);
        unchanged("23: how far", x -> x.bestTrim(0, 1), 37);
    }

    /** "of several the one nearest to 0, then the one above 0" */
    private static void bestTrimNearestToZero() {
        for (int low = -10; low <= 10; low++) {
            for (int high = low; high <= 10; high++) {
                TimingLights x = new TimingLights();
                x.shot(0, 10, 25 + low, 25, 25);
                x.shot(1, 10, 25 + high, 25, 25);
                int nearest = low > 0 ? low : Math.min(high, 0);
                Check.due("23: from " + low + " to " + high, x.bestTrim(0, 0), 20 + nearest);
                Check.due("23: how far off in between", x.bestTrim(0, 1), high - low);
            }
        }
        for (int both = 8; both <= 20; both++) {
            TimingLights x = twoBounded(both);
            Check.due("23: of -" + both + " and " + both, x.bestTrim(0, 0), 20 + both);
            Check.due("23: with either of them", x.bestTrim(0, 1), Math.max(15, both));
        }
    }

    /** As nothing prints above 50 or below 0, it is best at so many points below 0 and above it, and 0 is worse. */
    private static TimingLights twoBounded(int both) {
        TimingLights x = Check.reel(2, 10);
        int less = Math.max(0, 15 - both);
        x.light(0, 0, 50 - less);
        x.wish(0, 0, Math.min(10, 25 - both));
        x.light(1, 0, less);
        x.wish(1, 0, Math.max(-10, both - 25));
        return x;
    }

    private static void bestTrimOfAllTrims() {
        for (int reel = 0; reel < 30; reel++) {
            for (int colour = 0; colour < 3; colour++) {
                int best = 99;
                int least = 999;
                for (int trim = -20; trim <= 20; trim++) {
                    TimingLights x = mixed(reel);
                    x.trim(colour, trim);
                    int off = 0;
                    for (int place = 0; place < 6; place++) {
                        off += Math.abs(x.inColour(place, colour, 4) - 100);
                    }
                    if (off < least || off == least && 2 * Math.abs(trim) - (trim > 0 ? 1 : 0)
                            < 2 * Math.abs(best) - (best > 0 ? 1 : 0)) {
                        least = off;
                        best = trim;
                    }
                }
                Check.due("23: the trim of reel " + reel, mixed(reel).bestTrim(colour, 0), 20 + best);
                Check.due("23: how far off reel " + reel, mixed(reel).bestTrim(colour, 1), least);
            }
        }
    }

    private static TimingLights mixed(int reel) {
        TimingLights x = new TimingLights();
        for (int place = 0; place < 6; place++) {
            int number = 7 * reel + 11 * place;
            x.shot(place, 40, number % 51, number * 3 % 51, 20 + number % 11);
            x.light(place, 0, number * 5 % 51);
            x.light(place, 1, number * 13 % 51);
            x.wish(place, 2, number % 21 - 10);
        }
        x.print();
        x.set(TimingLights.RATE, reel);
        return x;
    }

    // ---- 24: printsNeeded

    /** "NOT_POSSIBLE if there is no shot" */
    private static void printsNeededWithoutAShot() {
        Twins.unchanged("24: no shot", TimingLights::new, TimingLights::printsNeeded, NOT_POSSIBLE);
        TimingLights x = Reels.oneShot(1, 0, 25);
        Check.due("24: one shot", x.printsNeeded(), 1);
        x.takeOut(0);
        Check.due("24: it is out", x.printsNeeded(), NOT_POSSIBLE);
        unchanged("24: so many", TimingLights::printsNeeded, 4);
        Twins.unchanged("24: twenty shots", Reels::full, TimingLights::printsNeeded, NONE);
    }

    /** "Returns how many; .. NONE if not within 20" */
    private static void printsNeededWithinTwenty() {
        for (int hours = 0; hours <= 3; hours++) {
            // It is off by 3, and a step of 4 is too wide, until the lamps have lost 2 points: at an age of 20 hours.
            TimingLights x = Reels.printed(1, 10, hours);
            x.set(TimingLights.STEP, 4);
            x.light(0, 0, 28);
            x.wish(0, 1, -1);
            x.wish(0, 2, -1);
            x.set(TimingLights.RATE, 10);
            Check.due("24: 20 hours, " + hours + " are over", x.printsNeeded(), hours == 0 ? NONE : 21 - hours);
        }
        TimingLights never = Reels.oneShot(10, 0, 25);
        never.set(TimingLights.RATE, 0);
        never.set(TimingLights.STEP, 3);
        never.light(0, 0, 27);
        Check.due("24: never", never.printsNeeded(), NONE);
        never.light(0, 0, 26);
        Check.due("24: at once", never.printsNeeded(), 1);
        never.light(0, 0, 28);
        Check.due("24: a correction ahead", never.printsNeeded(), 2);
    }

    /** "how many prints, each followed by correctAll(), .. until a print has no bad shot, that print counted" */
    private static void printsNeededAsByCalls() {
        for (int reel = 0; reel < 60; reel++) {
            TimingLights x = mixed(reel % 30);
            x.set(TimingLights.RATE, reel % 7);
            x.set(TimingLights.STEP, 1 + reel % 5);
            x.set(TimingLights.SLACK, 2 + reel % 8);
            Reels.takeOutFirst(x, reel < 30 ? 0 : 3 + reel % 3);
            int told = x.printsNeeded();
            int due = NONE;
            for (int prints = 1; prints <= 20 && due == NONE; prints++) {
                if (x.print() == 0) {
                    due = prints;
                }
                x.correctAll();
            }
            Check.due("24: reel " + reel, told, due);
        }
    }

    /** "(ages of lamps are not bounded here)" */
    private static void printsNeededWithOldLamps() {
        TimingLights x = Reels.printed(20, 99, 49);
        Twins.unchanged("24: too old to print", () -> Reels.printed(20, 99, 49), TimingLights::printsNeeded, 1);
        Check.due("24: a print is refused", x.print(), NOT_POSSIBLE);
        x.light(3, 2, 50);
        Check.due("24: two prints all the same", x.printsNeeded(), 2);
        TimingLights y = Reels.printed(20, 99, 48);
        y.light(3, 2, 50);
        Check.due("24: the second would be refused", y.printsNeeded(), 2);
    }
}
