/** Objects to begin with, made by calls alone. */
final class Reels {
    private Reels() {
    }

    /**
     * Four shots, of which the last has no answer; more than six changes, each of which can be seen; one slot in use,
     * the other not; and a good text on the pad.
     */
    static TimingLights rich() {
        TimingLights x = new TimingLights();
        x.shot(0, 60, 10, 20, 30);
        x.shot(1, 39, 10, 20, 30);
        x.shot(2, 5, 40, 25, 26);
        x.set(TimingLights.STEP, 2);
        x.set(TimingLights.SLACK, 3);
        x.print();
        x.set(TimingLights.RATE, 50);
        x.save(0);
        x.light(0, 0, 31);
        x.wish(1, 1, -4);
        x.trim(2, 3);
        x.correct(2);
        x.lamp(1);
        x.print();
        x.shot(3, 7, 25, 24, 23);
        Check.type(x, "l0r=41;w1g-3;m0>2");
        return x;
    }

    /** Both slots in use, and a text on the pad that ends too early. */
    static TimingLights richWithFault() {
        TimingLights x = rich();
        x.set(TimingLights.JUMP, 3);
        x.save(1);
        x.light(2, 2, 4);
        Check.type(x, ";m0");
        return x;
    }

    /** Twenty shots, all of them different. */
    static TimingLights full() {
        TimingLights x = new TimingLights();
        for (int place = 0; place < 20; place++) {
            x.shot(place, 5 + place, 20 + place / 2, 2 * place, 50 - place);
        }
        x.print();
        x.set(TimingLights.RATE, 50);
        x.correct(3);
        x.light(19, 1, 50);
        x.wish(0, 2, 10);
        x.print();
        x.trim(0, -7);
        Check.type(x, "c19;m0>19");
        return x;
    }

    /** So many shots of so many feet, with density 25 in every colour, printed so often; RATE is 0. */
    static TimingLights printed(int shots, int feet, int prints) {
        TimingLights x = Check.reel(shots, feet);
        x.set(TimingLights.RATE, 0);
        for (int left = prints; left > 0; left -= 40) {
            Check.type(x, "p" + ";p".repeat(Math.min(40, left) - 1));
            x.carryOut();
        }
        return x;
    }

    /** One shot, with density 25 in every colour but one. */
    static TimingLights oneShot(int feet, int colour, int density) {
        TimingLights x = new TimingLights();
        x.shot(0, feet, colour == 0 ? density : 25, colour == 1 ? density : 25, colour == 2 ? density : 25);
        return x;
    }

    static void undoAll(TimingLights x) {
        for (int left = x.count(13); left > 0; left--) {
            x.undo();
        }
    }

    static void takeOutFirst(TimingLights x, int shots) {
        for (int left = shots; left > 0; left--) {
            x.takeOut(0);
        }
    }

    /** Values just outside a range, and far outside it, also where a short or a byte of them would be inside. */
    static int[] outside(int least, int most) {
        return new int[] {least - 1, most + 1, least - 256, least + 65536, 1 << 28, -1 << 28,
                Integer.MIN_VALUE, Integer.MAX_VALUE};
    }
}
