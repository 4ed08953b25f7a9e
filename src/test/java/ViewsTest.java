/** Promises 16 to 19: what there is. */
public final class ViewsTest {
    public static void main(String[] args) {
        promise16Of();
        promise16Bad();
        promise16Jump();
        promise17InColour();
        promise17Printing();
        promise18OfLamp();
        promise19Count();
        promise19FullSets();
        Check.end();
    }

    private static void promise16Of() {
        TimingLights x = new TimingLights();
        x.shot(0, 60, 25, 25, 25);
        x.shot(1, 50, 25, 25, 25);
        x.shot(2, 99, 25, 25, 25);
        for (int place : new int[] {-1, 3, Integer.MIN_VALUE, Integer.MAX_VALUE}) {
            Check.due("16: place " + place, x.of(place, 9), TimingLights.NO_SUCH);
        }
        Check.due("16: what -1", x.of(0, -1), TimingLights.BAD_VALUE);
        Check.due("16: what 5", x.of(0, 5), TimingLights.BAD_VALUE);
        Check.due("16: length", x.of(2, 0), 99);
        Check.due("16: first foot", x.of(0, 1), 0);
        Check.due("16: its first foot", x.of(2, 1), 110);
        Check.due("16: no answer", x.of(1, 2), 0);
        x.print();
        Check.due("16: an answer", x.of(1, 2), 1);
    }

    private static void promise16Bad() {
        TimingLights x = new TimingLights();
        x.shot(0, 10, 25, 25, 23);
        x.shot(1, 10, 26, 24, 25);
        Check.due("16: without an answer", x.of(0, 3), 0);
        x.print();
        Check.due("16: bad", x.of(0, 3), 1);
        Check.due("16: off by just SLACK", x.of(1, 3), 0);
        x.set(TimingLights.SLACK, 2);
        Check.due("16: good with more slack", x.of(0, 3), 0);
        x.set(TimingLights.SLACK, 0);
        Check.due("16: bad with no slack", x.of(1, 3), 1);
        x.light(1, 0, 26);
        x.light(1, 1, 24);
        Check.due("16: right now, but its answer is not", x.of(1, 3), 1);
        x.correct(1);
        Check.due("16: corrected", x.of(1, 3), 0);
    }

    private static void promise16Jump() {
        TimingLights x = new TimingLights();
        x.shot(0, 10, 25, 25, 33);
        x.shot(1, 10, 25, 25, 25);
        x.shot(2, 10, 25, 34, 25);
        Check.due("16: a difference of JUMP", x.of(0, 4), 0);
        Check.due("16: above JUMP", x.of(1, 4), 1);
        Check.due("16: from the last one", x.of(2, 4), 0);
        x.set(TimingLights.JUMP, 7);
        Check.due("16: above JUMP the other way", x.of(0, 4), 1);
        x.light(0, 2, 33);
        Check.due("16: with lights", x.of(0, 4), 0);
        x.wish(0, 2, 10);
        Check.due("16: wishes do not print", x.of(0, 4), 0);
    }

    private static void promise17InColour() {
        TimingLights x = new TimingLights();
        x.shot(0, 10, 11, 22, 33);
        x.wish(0, 1, -3);
        x.light(0, 2, 41);
        Check.due("17: place 1", x.inColour(1, 9, 9), TimingLights.NO_SUCH);
        Check.due("17: place -1", x.inColour(-1, 0, 0), TimingLights.NO_SUCH);
        Check.due("17: colour 3", x.inColour(0, 3, 0), TimingLights.BAD_VALUE);
        Check.due("17: colour -1", x.inColour(0, -1, 0), TimingLights.BAD_VALUE);
        Check.due("17: what 6", x.inColour(0, 0, 6), TimingLights.BAD_VALUE);
        Check.due("17: what -1", x.inColour(0, 0, -1), TimingLights.BAD_VALUE);
        Check.due("17: error ahead of none", x.inColour(0, 3, 5), TimingLights.BAD_VALUE);
        Check.due("17: density", x.inColour(0, 1, 0), 22);
        Check.due("17: wish", x.inColour(0, 1, 1), 7);
        Check.due("17: light", x.inColour(0, 2, 2), 41);
        Check.due("17: prints", x.inColour(0, 0, 3), 39);
        Check.due("17: prints with its light", x.inColour(0, 2, 3), 33);
        Check.due("17: off", x.inColour(0, 0, 4), 114);
        Check.due("17: off its wish", x.inColour(0, 1, 4), 106);
        Check.due("17: no answer", x.inColour(0, 1, 5), TimingLights.NONE);
        x.print();
        x.wish(0, 1, 0);
        Check.due("17: answer", x.inColour(0, 1, 5), 106);
        Check.due("17: off by another wish", x.inColour(0, 1, 4), 103);
    }

    private static void promise17Printing() {
        TimingLights x = new TimingLights();
        for (int place = 0; place < 20; place++) {
            x.shot(place, 99, 50, 0, 25);
        }
        Check.due("17: 0", x.inColour(0, 0, 3), 0);
        Check.due("17: 50", x.inColour(0, 1, 3), 50);
        x.light(0, 0, 0);
        x.light(0, 1, 50);
        x.wish(0, 0, 10);
        x.wish(0, 1, -10);
        Check.due("17: 0 at least", x.inColour(0, 0, 3), 0);
        Check.due("17: 50 at most", x.inColour(0, 1, 3), 50);
        Check.due("17: off by -35", x.inColour(0, 0, 4), 65);
        Check.due("17: off by 35", x.inColour(0, 1, 4), 135);
        x.print();
        Check.due("17: the lamp loses 2", x.inColour(0, 2, 3), 23);
        Check.due("17: off by what it loses", x.inColour(0, 2, 4), 98);
        Check.due("17: the answer is older", x.inColour(0, 2, 5), 100);
        x.trim(2, 5);
        Check.due("17: the trim", x.inColour(0, 2, 3), 28);
        Check.due("17: the least answer", x.inColour(0, 0, 5), 65);
        Check.due("17: the most answer", x.inColour(0, 1, 5), 135);
    }

    private static void promise18OfLamp() {
        TimingLights x = Check.reel(20, 99);
        for (int colour : new int[] {-1, 3, Integer.MIN_VALUE, Integer.MAX_VALUE}) {
            Check.due("18: colour " + colour, x.ofLamp(colour, 0), TimingLights.BAD_VALUE);
        }
        Check.due("18: what -1", x.ofLamp(0, -1), TimingLights.BAD_VALUE);
        Check.due("18: what 3", x.ofLamp(0, 3), TimingLights.BAD_VALUE);
        x.takeOut(0);
        x.print();
        x.trim(1, -6);
        Check.due("18: age", x.ofLamp(1, 0), 19);
        Check.due("18: 190 hundredths", x.ofLamp(1, 1), 1);
        Check.due("18: trim", x.ofLamp(1, 2), 14);
        x.set(TimingLights.RATE, 11);
        Check.due("18: 209 hundredths", x.ofLamp(1, 1), 2);
        x.set(TimingLights.RATE, 50);
        Check.due("18: 950 hundredths", x.ofLamp(1, 1), 9);
        x.set(TimingLights.RATE, 0);
        Check.due("18: nothing", x.ofLamp(1, 1), 0);
        TimingLights y = Check.reel(10, 90);
        y.print();
        y.set(TimingLights.RATE, 11);
        Check.due("18: 99 hundredths", y.ofLamp(0, 1), 0);
        y.print();
        y.set(TimingLights.RATE, 50);
        Check.due("18: 900 hundredths", y.ofLamp(0, 1), 9);
    }

    private static void promise19Count() {
        TimingLights x = new TimingLights();
        x.shot(0, 60, 25, 25, 25);
        x.shot(1, 70, 40, 25, 25);
        x.shot(2, 80, 25, 25, 27);
        x.set(TimingLights.STEP, 2);
        x.set(TimingLights.SLACK, 3);
        x.set(TimingLights.JUMP, 9);
        x.set(TimingLights.RATE, 12);
        x.print();
        x.wish(2, 2, 9);
        x.set(TimingLights.SLACK, 1);
        Check.type(x, "p;c0");
        Check.due("19: what -1", x.count(-1), TimingLights.BAD_VALUE);
        Check.due("19: what 14", x.count(14), TimingLights.BAD_VALUE);
        Check.due("19: lowest int", x.count(Integer.MIN_VALUE), TimingLights.BAD_VALUE);
        Check.due("19: shots", x.count(0), 3);
        Check.due("19: feet", x.count(1), 210);
        Check.due("19: prints", x.count(2), 1);
        Check.due("19: bad shots", x.count(3), 0b110);
        x.correct(1);
        Check.due("19: bad shots but one", x.count(3), 0b100);
        Check.due("19: answers", x.count(4), 0b101);
        Check.due("19: points", x.count(6), 14);
        Check.due("19: jumps", x.count(5), 0);
        Check.due("19: off now", x.count(7), 0b100);
        x.light(1, 0, 16);
        Check.due("19: both sides of a jump", x.count(5), 0b011);
        Check.due("19: off by a light", x.count(7), 0b110);
        Check.due("19: STEP", x.count(8), 2);
        Check.due("19: SLACK", x.count(9), 1);
        Check.due("19: JUMP", x.count(10), 9);
        Check.due("19: RATE", x.count(11), 12);
        Check.due("19: pad", x.count(12), 4);
        Check.due("19: changes", x.count(13), 6);
        x.undo();
        Check.due("19: a change less", x.count(13), 5);
        TimingLights y = Check.reel(1, 1);
        y.light(0, 1, 26);
        Check.due("19: off by just SLACK", y.count(7), 0);
        y.light(0, 1, 27);
        Check.due("19: off by more", y.count(7), 1);
        y.light(0, 1, 23);
        Check.due("19: off by more below", y.count(7), 1);
        y.set(TimingLights.SLACK, 0);
        y.light(0, 1, 25);
        Check.due("19: off by nothing, without slack", y.count(7), 0);
        y.light(0, 1, 24);
        Check.due("19: off, without slack", y.count(7), 1);
    }

    private static void promise19FullSets() {
        TimingLights x = Check.reel(20, 99);
        for (int place = 0; place < 20; place++) {
            x.light(place, 0, place % 2 == 0 ? 10 : 40);
        }
        Check.due("19: all are bad", x.print(), 20);
        Check.due("19: all bad", x.count(3), 0xFFFFF);
        Check.due("19: all answered", x.count(4), 0xFFFFF);
        Check.due("19: all but the last jump", x.count(5), 0x7FFFF);
        Check.due("19: all off", x.count(7), 0xFFFFF);
        Check.due("19: all feet", x.count(1), 1980);
        Check.due("19: twenty hours", x.ofLamp(0, 0), 20);
    }
}
