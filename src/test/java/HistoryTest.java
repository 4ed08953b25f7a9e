/** Promises 29 to 31: undo, saving. */
public final class HistoryTest {
    public static void main(String[] args) {
        promise29Undo();
        promise29SixStates();
        promise29EachChange();
        promise29Errors();
        promise29KeptOut();
        promise30Save();
        promise31Restore();
        Check.end();
    }

    private static void promise29Undo() {
        TimingLights x = new TimingLights();
        Check.due("29: nothing to undo", x.undo(), TimingLights.NOT_POSSIBLE);
        x.shot(0, 60, 40, 25, 25);
        x.print();
        x.correct(0);
        x.set(TimingLights.RATE, 50);
        Check.due("29: the setting", x.undo(), 3);
        Check.due("29: RATE", x.count(11), 10);
        Check.due("29: the correction", x.undo(), 2);
        Check.due("29: the light", x.inColour(0, 0, 2), 25);
        Check.due("29: the answer is back", x.inColour(0, 0, 5), 85);
        Check.due("29: the points", x.count(6), 0);
        Check.due("29: the print", x.undo(), 1);
        Check.due("29: no answer", x.of(0, 2), 0);
        Check.due("29: the age", x.ofLamp(0, 0), 0);
        Check.due("29: prints", x.count(2), 0);
        Check.due("29: the shot", x.undo(), 0);
        Check.due("29: shots", x.count(0), 0);
        Check.due("29: nothing is left", x.undo(), TimingLights.NOT_POSSIBLE);
    }

    private static void promise29SixStates() {
        TimingLights x = Check.reel(1, 10);
        for (int points = 1; points <= 9; points++) {
            x.light(0, 0, points);
            Check.due("29: six at most", x.count(13), Math.min(6, 1 + points));
        }
        for (int left = 5; left >= 0; left--) {
            Check.due("29: undo", x.undo(), left);
            Check.due("29: the light", x.inColour(0, 0, 2), 3 + left);
        }
        Check.due("29: the oldest are dropped", x.undo(), TimingLights.NOT_POSSIBLE);
        x.light(0, 0, 40);
        x.light(0, 0, 41);
        Check.due("29: again", x.undo(), 1);
        Check.due("29: the light again", x.inColour(0, 0, 2), 40);
        x.light(0, 0, 42);
        Check.due("29: the new one only", x.undo(), 1);
        Check.due("29: 40", x.inColour(0, 0, 2), 40);
        Check.due("29: the first", x.undo(), 0);
        Check.due("29: 3", x.inColour(0, 0, 2), 3);
    }

    private static void promise29EachChange() {
        TimingLights x = new TimingLights();
        x.shot(0, 40, 25, 25, 25);
        x.shot(1, 40, 25, 25, 25);
        x.save(0);
        String[] changes = {"set", "shot", "takeOut", "light", "wish", "move", "split", "join", "print", "correct",
                "correctAll", "card", "trim", "lamp", "restore"};
        for (int change = 0; change < changes.length; change++) {
            Reels.undoAll(x);
            x.shot(0, 40, 25, 25, 25);
            x.shot(1, 40, 25, 25, 25);
            x.print();
            Check.due("29: three ahead of " + changes[change], x.count(13), 3);
            Check.due("29: no error of " + changes[change], carry(x, change) >= 0 ? 1 : 0, 1);
            Check.due("29: recorded by " + changes[change], x.count(13), 4);
            Check.due("29: undone after " + changes[change], x.undo(), 3);
            Check.due("29: the lengths after " + changes[change], x.of(0, 0) + x.of(1, 0), 80);
            Check.due("29: the answers after " + changes[change], x.count(4), 3);
        }
    }

    /** Most of these leave all as it is: they are recorded also then. */
    private static int carry(TimingLights x, int change) {
        switch (change) {
            case 0:
                return x.set(TimingLights.STEP, 1);
            case 1:
                return x.shot(0, 7, 1, 1, 1);
            case 2:
                return x.takeOut(0);
            case 3:
                return x.light(0, 0, 25);
            case 4:
                return x.wish(0, 0, 0);
            case 5:
                return x.move(1, 1);
            case 6:
                return x.split(0, 7);
            case 7:
                return x.join(0);
            case 8:
                return x.print();
            case 9:
                return x.correct(0);
            case 10:
                return x.correctAll();
            case 11:
                return x.card();
            case 12:
                return x.trim(0, 0);
            case 13:
                return x.lamp(0);
            default:
                return x.restore(0);
        }
    }

    private static void promise29Errors() {
        TimingLights x = Check.reel(1, 10);
        x.set(4, 0);
        x.shot(2, 1, 1, 1, 1);
        x.takeOut(1);
        x.light(1, 0, 0);
        x.wish(1, 0, 0);
        x.move(0, 1);
        x.split(0, 10);
        x.join(0);
        x.correct(0);
        x.trim(3, 0);
        x.lamp(3);
        x.restore(0);
        x.restore(2);
        x.carryOut();
        Check.due("29: errors are not recorded", x.count(13), 1);
        x.takeOut(0);
        x.print();
        Check.due("29: nor a print of nothing", x.count(13), 2);
    }

    private static void promise29KeptOut() {
        TimingLights x = Check.reel(1, 10);
        x.light(0, 0, 1);
        Check.type(x, "p;p");
        x.save(1);
        Check.due("29: undo", x.undo(), 1);
        Check.due("29: the pad stays", x.count(12), 3);
        Check.due("29: undo", x.undo(), 0);
        Check.due("29: the slot stays", x.restore(1), 1);
        Check.due("29: as it was saved", x.inColour(0, 0, 2), 1);
    }

    private static void promise30Save() {
        TimingLights x = new TimingLights();
        Check.due("30: slot -1", x.save(-1), TimingLights.BAD_VALUE);
        Check.due("30: slot 2", x.save(2), TimingLights.BAD_VALUE);
        Check.due("30: slot 32", x.save(32), TimingLights.BAD_VALUE);
        Check.due("30: an empty reel", x.save(0), 0);
        Check.due("30: the other slot is empty", x.restore(1), TimingLights.NOT_POSSIBLE);
        x.shot(0, 10, 1, 1, 1);
        Check.due("30: a shot", x.save(1), 1);
        Check.due("30: it is no change", x.count(13), 1);
        x.shot(1, 20, 1, 1, 1);
        Check.due("30: over the first", x.save(0), 2);
        x.takeOut(0);
        x.takeOut(0);
        Check.due("30: the one of slot 1", x.restore(1), 1);
        Check.due("30: the two of slot 0", x.restore(0), 2);
    }

    private static void promise31Restore() {
        TimingLights x = new TimingLights();
        Check.due("31: slot 2", x.restore(2), TimingLights.BAD_VALUE);
        Check.due("31: slot -1", x.restore(-1), TimingLights.BAD_VALUE);
        Check.due("31: nothing saved", x.restore(0), TimingLights.NOT_POSSIBLE);
        x.shot(0, 60, 40, 25, 25);
        x.wish(0, 2, 3);
        x.set(TimingLights.SLACK, 2);
        x.print();
        x.save(0);
        x.correct(0);
        x.lamp(0);
        x.trim(1, 9);
        x.set(TimingLights.SLACK, 5);
        x.takeOut(0);
        Check.type(x, "a;k");
        Check.due("31: the shot is back", x.restore(0), 1);
        Check.due("31: its answer", x.inColour(0, 0, 5), 85);
        Check.due("31: its wish", x.inColour(0, 2, 1), 13);
        Check.due("31: its light", x.inColour(0, 0, 2), 25);
        Check.due("31: points", x.count(6), 0);
        Check.due("31: prints", x.count(2), 1);
        Check.due("31: the age", x.ofLamp(0, 0), 1);
        Check.due("31: the trim", x.ofLamp(1, 2), 20);
        Check.due("31: the setting", x.count(9), 2);
        Check.due("31: the pad stays", x.count(12), 3);
        Check.due("31: the history stays", x.count(13), 6);
        Check.due("31: undone", x.undo(), 5);
        Check.due("31: no shot", x.count(0), 0);
        x.restore(0);
        x.light(0, 0, 9);
        Check.due("31: the slot keeps it", x.restore(0), 1);
        Check.due("31: as it was saved", x.inColour(0, 0, 2), 25);
    }
}
