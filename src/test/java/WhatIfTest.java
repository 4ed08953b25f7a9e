/** Promises 20 to 24: what if; and that nothing changes by asking. */
public final class WhatIfTest {
    private static final int[] WRONG_COLOURS = {-1, 3, Integer.MIN_VALUE, Integer.MAX_VALUE};

    public static void main(String[] args) {
        promise20Needs();
        promise21IfLight();
        promise22Lasts();
        promise22Edges();
        promise23BestTrim();
        promise23Ties();
        promise24PrintsNeeded();
        promise24Bounds();
        nothingChanges();
        Check.end();
    }

    private static void promise20Needs() {
        TimingLights x = new TimingLights();
        Check.due("20: no shot", x.needs(0, 9), TimingLights.NO_SUCH);
        x.shot(0, 10, 0, 50, 25);
        Check.due("20: place 1", x.needs(1, 0), TimingLights.NO_SUCH);
        Check.due("20: place -1", x.needs(-1, 0), TimingLights.NO_SUCH);
        for (int colour : WRONG_COLOURS) {
            Check.due("20: colour " + colour, x.needs(0, colour), TimingLights.BAD_VALUE);
        }
        Check.due("20: 0", x.needs(0, 0), 0);
        Check.due("20: 50", x.needs(0, 1), 50);
        Check.due("20: 25", x.needs(0, 2), 25);
        x.trim(0, 1);
        x.trim(1, -1);
        x.trim(2, 7);
        Check.due("20: below 0", x.needs(0, 0), TimingLights.NONE);
        Check.due("20: above 50", x.needs(0, 1), TimingLights.NONE);
        Check.due("20: less by the trim", x.needs(0, 2), 18);
        x.wish(0, 0, 1);
        x.wish(0, 1, -1);
        x.wish(0, 2, 10);
        Check.due("20: 0 again", x.needs(0, 0), 0);
        Check.due("20: 50 again", x.needs(0, 1), 50);
        Check.due("20: more by the wish", x.needs(0, 2), 28);
        x.light(0, 2, 28);
        Check.due("20: off by nothing then", x.inColour(0, 2, 4), 100);
        TimingLights y = Check.reel(20, 99);
        y.print();
        Check.due("20: more by what the lamp loses", y.needs(3, 1), 27);
    }

    private static void promise21IfLight() {
        TimingLights x = new TimingLights();
        Check.due("21: no shot", x.ifLight(0, 9, 99), TimingLights.NO_SUCH);
        x.shot(0, 10, 0, 50, 30);
        Check.due("21: place 1", x.ifLight(1, 0, 0), TimingLights.NO_SUCH);
        for (int colour : WRONG_COLOURS) {
            Check.due("21: colour " + colour, x.ifLight(0, colour, 0), TimingLights.BAD_VALUE);
        }
        Check.due("21: points -1", x.ifLight(0, 0, -1), TimingLights.BAD_VALUE);
        Check.due("21: points 51", x.ifLight(0, 0, 51), TimingLights.BAD_VALUE);
        Check.due("21: least", x.ifLight(0, 2, 0), 0);
        Check.due("21: most", x.ifLight(0, 2, 50), 45);
        Check.due("21: 50 at most", x.ifLight(0, 0, 26), 50);
        Check.due("21: 0 at least", x.ifLight(0, 1, 24), 0);
        x.trim(2, -3);
        x.wish(0, 2, 9);
        Check.due("21: with the trim, without the wish", x.ifLight(0, 2, 25), 17);
        x.trim(2, 3);
        Check.due("21: with another trim", x.ifLight(0, 2, 10), 8);
    }

    private static void promise22Lasts() {
        TimingLights x = new TimingLights();
        for (int colour : WRONG_COLOURS) {
            Check.due("22: colour " + colour, x.lasts(colour), TimingLights.BAD_VALUE);
        }
        Check.due("22: no shot", x.lasts(0), TimingLights.NONE);
        x.shot(0, 99, 25, 25, 49);
        x.shot(1, 99, 25, 40, 25);
        Check.due("22: 26 points in 260 hours", x.lasts(0), 260);
        Check.due("22: 11 points in 110 hours", x.lasts(1), 110);
        Check.due("22: 2 points in 20 hours", x.lasts(2), 20);
        x.print();
        Check.due("22: two hours less", x.lasts(2), 18);
        x.wish(0, 2, 1);
        Check.due("22: the wish", x.lasts(2), 8);
        x.trim(2, 3);
        Check.due("22: the trim", x.lasts(2), 38);
        x.trim(2, -5);
        Check.due("22: it is so now", x.lasts(2), 0);
        x.set(TimingLights.RATE, 50);
        Check.due("22: another rate", x.lasts(1), 20);
        x.set(TimingLights.RATE, 0);
        Check.due("22: no loss", x.lasts(1), TimingLights.NONE);
    }

    private static void promise22Edges() {
        TimingLights x = new TimingLights();
        x.shot(0, 1, 0, 1, 1);
        Check.due("22: 51 points in 510 hours", x.lasts(0), TimingLights.NONE);
        Check.due("22: 50 points in 500 hours", x.lasts(1), 500);
        x.wish(0, 1, -1);
        Check.due("22: not within 500", x.lasts(1), TimingLights.NONE);
        x.wish(0, 1, -2);
        Check.due("22: below 0 now", x.lasts(1), 0);
        TimingLights z = Check.reel(9, 99);
        z.print();
        z.wish(4, 2, 10);
        z.trim(2, -3);
        Check.due("22: 12 points more", z.lasts(2), 121);
        z.takeOut(4);
        z.shot(8, 1, 25, 25, 0);
        Reels.takeOutFirst(z, 8);
        z.trim(2, 0);
        Check.due("22: in 501 hours", z.lasts(2), TimingLights.NONE);
        z.print();
        Check.due("22: in 500 hours, a print later", z.lasts(2), 500);
        TimingLights y = Check.reel(20, 99);
        y.set(TimingLights.RATE, 1);
        for (int prints = 0; prints < 49; prints++) {
            y.print();
        }
        y.wish(0, 0, 10);
        y.wish(1, 0, 10);
        y.trim(0, 0);
        Check.due("22: far from it", y.lasts(0), TimingLights.NONE);
        y.trim(0, -2);
        Check.due("22: beyond 999 hours", y.lasts(0), 1400 - 980);
    }

    private static void promise23BestTrim() {
        TimingLights x = new TimingLights();
        for (int colour : WRONG_COLOURS) {
            Check.due("23: colour " + colour, x.bestTrim(colour, 0), TimingLights.BAD_VALUE);
        }
        Check.due("23: what -1", x.bestTrim(0, -1), TimingLights.BAD_VALUE);
        Check.due("23: what 2", x.bestTrim(0, 2), TimingLights.BAD_VALUE);
        Check.due("23: no shot", x.bestTrim(0, 0), 20);
        Check.due("23: no shot is off", x.bestTrim(0, 1), 0);
        x.shot(0, 10, 28, 20, 50);
        x.shot(1, 10, 28, 20, 50);
        x.shot(2, 10, 40, 25, 50);
        Check.due("23: as most want it", x.bestTrim(0, 0), 23);
        Check.due("23: 12 off", x.bestTrim(0, 1), 12);
        Check.due("23: below 0", x.bestTrim(1, 0), 15);
        Check.due("23: 5 off", x.bestTrim(1, 1), 5);
        Check.due("23: 20 at most", x.bestTrim(2, 0), 40);
        Check.due("23: off with it", x.bestTrim(2, 1), 15);
        x.trim(0, -11);
        Check.due("23: whatever the trim is", x.bestTrim(0, 0), 23);
        x.wish(0, 0, 4);
        x.wish(1, 0, 4);
        Check.due("23: with wishes", x.bestTrim(0, 0), 27);
        TimingLights y = Check.reel(20, 99);
        y.print();
        Check.due("23: with what the lamp loses", y.bestTrim(1, 0), 22);
        TimingLights z = new TimingLights();
        z.shot(0, 1, 0, 25, 25);
        Check.due("23: -20 at least", z.bestTrim(0, 0), 0);
    }

    private static void promise23Ties() {
        TimingLights x = new TimingLights();
        x.shot(0, 10, 20, 30, 22);
        x.shot(1, 10, 30, 34, 18);
        Check.due("23: from -5 to 5", x.bestTrim(0, 0), 20);
        Check.due("23: 10 off", x.bestTrim(0, 1), 10);
        Check.due("23: from 5 to 9", x.bestTrim(1, 0), 25);
        Check.due("23: from -7 to -3", x.bestTrim(2, 0), 17);
        // What is printed is bounded: from -15 to 15 they are off by 30, and less outside of it.
        TimingLights y = new TimingLights();
        y.shot(0, 10, 25, 25, 25);
        y.light(0, 0, 50);
        y.wish(0, 0, 10);
        y.shot(1, 10, 25, 25, 25);
        y.light(1, 0, 0);
        y.wish(1, 0, -10);
        Check.due("23: of -15 and 15 the one above 0", y.bestTrim(0, 0), 35);
        Check.due("23: one of them is off", y.bestTrim(0, 1), 15);
        TimingLights z = new TimingLights();
        z.shot(0, 10, 25, 26, 24);
        z.shot(1, 10, 25, 26, 24);
        z.shot(2, 10, 15, 26, 24);
        Check.due("23: 0, though below is better than above", z.bestTrim(0, 0), 20);
        Check.due("23: 1", z.bestTrim(1, 0), 21);
        Check.due("23: -1", z.bestTrim(2, 0), 19);
    }

    private static void promise24PrintsNeeded() {
        TimingLights x = new TimingLights();
        Check.due("24: no shot", x.printsNeeded(), TimingLights.NOT_POSSIBLE);
        x.shot(0, 10, 25, 25, 26);
        Check.due("24: it is good", x.printsNeeded(), 1);
        x.light(0, 0, 40);
        Check.due("24: one correction", x.printsNeeded(), 2);
        x.set(TimingLights.STEP, 4);
        x.set(TimingLights.SLACK, 2);
        Check.due("24: steps too wide, till the lamp has lost a point", x.printsNeeded(), 11);
        x.set(TimingLights.RATE, 0);
        Check.due("24: steps too wide", x.printsNeeded(), TimingLights.NONE);
        x.set(TimingLights.SLACK, 3);
        Check.due("24: steps wide", x.printsNeeded(), 2);
        TimingLights y = new TimingLights();
        y.shot(0, 10, 50, 25, 25);
        y.wish(0, 0, 10);
        Check.due("24: never bright enough", y.printsNeeded(), TimingLights.NONE);
        TimingLights z = new TimingLights();
        z.shot(0, 10, 50, 25, 25);
        z.light(0, 0, 0);
        z.trim(0, -10);
        z.wish(0, 0, -10);
        Check.due("24: from far below", z.printsNeeded(), 5);
        TimingLights w = new TimingLights();
        w.shot(0, 10, 25, 24, 24);
        w.light(0, 0, 28);
        w.set(TimingLights.STEP, 4);
        w.set(TimingLights.RATE, 11);
        Check.due("24: 209 hundredths at the 20th", w.printsNeeded(), 20);
        w.set(TimingLights.RATE, 10);
        Check.due("24: not within 20", w.printsNeeded(), TimingLights.NONE);
    }

    private static void promise24Bounds() {
        TimingLights x = Check.reel(20, 99);
        x.set(TimingLights.RATE, 0);
        for (int prints = 0; prints < 49; prints++) {
            x.print();
        }
        Check.due("24: too old to print", x.print(), TimingLights.NOT_POSSIBLE);
        Check.due("24: ages are not bounded", x.printsNeeded(), 1);
        x.light(0, 0, 0);
        Check.due("24: nor later", x.printsNeeded(), 2);
        x.set(TimingLights.RATE, 50);
        Check.due("24: lamps too weak", x.printsNeeded(), TimingLights.NONE);
    }

    private static void nothingChanges() {
        TimingLights x = new TimingLights();
        x.shot(0, 99, 40, 10, 25);
        x.shot(1, 99, 20, 30, 25);
        x.print();
        x.light(1, 2, 30);
        int[] before = counts(x);
        x.needs(0, 0);
        x.ifLight(0, 0, 50);
        x.lasts(0);
        x.bestTrim(0, 0);
        x.printsNeeded();
        int[] behind = counts(x);
        for (int what = 0; what < before.length; what++) {
            Check.due("what if changes nothing: count(" + what + ")", behind[what], before[what]);
        }
        Check.due("what if changes no light", x.inColour(0, 0, 2), 25);
        Check.due("what if changes no age", x.ofLamp(0, 0), 2);
        Check.due("what if changes no trim", x.ofLamp(0, 2), 20);
        Check.due("what if changes no answer", x.inColour(0, 0, 5), 85);
    }

    private static int[] counts(TimingLights x) {
        int[] counts = new int[14];
        for (int what = 0; what < counts.length; what++) {
            counts[what] = x.count(what);
        }
        return counts;
    }
}
