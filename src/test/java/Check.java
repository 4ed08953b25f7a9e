/** Counts answers, prints those that are not due, and ends a test with the exit code that tells. */
final class Check {
    private static final int MOST_TOLD = 200;
    private static int asked = 0;
    private static int wrong = 0;

    private Check() {
    }

    static void due(String call, long got, long want) {
        asked++;
        if (got != want) {
            wrong++;
            if (wrong <= MOST_TOLD) {
                System.out.println(call + " answered " + got + ", due is " + want);
            }
        }
    }

    static void end() {
        System.out.println(asked + " answers, " + wrong + " not due");
        if (wrong != 0 || asked == 0) {
            System.exit(1);
        }
    }

    /** Puts a whole text on the pad, eight characters a call; answers what the last call answered. */
    static int type(TimingLights x, String text) {
        int answer = 0;
        for (int start = 0; start < text.length(); start += 8) {
            answer = x.put(packed(text.substring(start, Math.min(text.length(), start + 8))));
        }
        return answer;
    }

    static long packed(String characters) {
        long packed = 0;
        for (char character : characters.toCharArray()) {
            packed = packed << 8 | character;
        }
        return packed;
    }

    /** A reel of so many shots, each of so many feet and with density 25 in every colour. */
    static TimingLights reel(int shots, int feet) {
        TimingLights x = new TimingLights();
        for (int place = 0; place < shots; place++) {
            x.shot(place, feet, 25, 25, 25);
        }
        return x;
    }
}
