import java.util.function.ToIntFunction;

/** "Texts" and promises 25 to 28, sentence by sentence: just inside and just outside of every boundary. */
public final class EdgesOfTextsTest {
    private static final int BAD_VALUE = TimingLights.BAD_VALUE, BAD_TEXT = TimingLights.BAD_TEXT;
    private static final int TOO_MANY = TimingLights.TOO_MANY, NONE = TimingLights.NONE;
    private static final String LETTERS = "slwmpcak", DIGITS = "0123456789", COLOURS = "rgb";

    /** Beginnings of a text, and which characters can stand behind each of them; a ; only where it is a whole text. */
    private static final String[][] BEGINNINGS = {{"", LETTERS}, {"p;", LETTERS}, {"a;k;", LETTERS},
            {"s", DIGITS}, {"s0", ":"}, {"s1", DIGITS + ":"}, {"s9", DIGITS + ":"}, {"s10", ":"}, {"s99", ":"},
            {"s1:", DIGITS}, {"s1:0", ","}, {"s1:5", DIGITS + ","}, {"s1:50", ","},
            {"s1:2,", DIGITS}, {"s1:2,0", ","}, {"s1:2,3", DIGITS + ","}, {"s1:2,39", ","},
            {"s1:2,3,", DIGITS}, {"s1:2,3,0", ";"}, {"s1:2,3,4", DIGITS + ";"}, {"s1:2,3,40", ";"},
            {"l", DIGITS}, {"l0", COLOURS}, {"l1", DIGITS + COLOURS}, {"l19", COLOURS}, {"l0r", "="}, {"l0g", "="},
            {"l10b", "="}, {"l0r=", DIGITS}, {"l0r=0", ";"}, {"l0r=5", DIGITS + ";"}, {"l0r=50", ";"},
            {"w", DIGITS}, {"w0", COLOURS}, {"w1", DIGITS + COLOURS}, {"w19", COLOURS}, {"w0r", "+-"}, {"w0g", "+-"},
            {"w10b", "+-"}, {"w0r+", DIGITS}, {"w0r-", DIGITS}, {"w0r+0", ";"}, {"w0r-9", DIGITS + ";"},
            {"w0r-10", ";"},
            {"m", DIGITS}, {"m0", ">"}, {"m1", DIGITS + ">"}, {"m19", ">"}, {"m0>", DIGITS}, {"m0>0", ";"},
            {"m0>1", DIGITS + ";"}, {"m0>19", ";"},
            {"p", ";"}, {"c", DIGITS}, {"c0", ";"}, {"c1", DIGITS + ";"}, {"c19", ";"}, {"a", ";"}, {"k", ";"},
            {"k;s1:2,3,4;w0", COLOURS}, {"p;p;c7", DIGITS + ";"}};

    public static void main(String[] args) {
        putNoCharacter();
        putCodes();
        putZeroBits();
        putOneToEight();
        padAtMostEighty();
        wipeBounds();
        faultIsTheFirstThatCannotStand();
        faultOfNumbers();
        faultIfItEndsTooEarly();
        faultOfTheLongest();
        carryOutRefused();
        carryOutAsTheCalls();
        carryOutUpToTheFirstError();
        carryOutEachError();
        carryOutIsOneChange();
        carryOutTheMost();
        Check.end();
    }

    private static void unchanged(String name, ToIntFunction<TimingLights> call, int due) {
        Twins.unchanged(name, Reels::rich, call, due);
    }

    private static TimingLights typed(String text) {
        TimingLights x = new TimingLights();
        Check.type(x, text);
        return x;
    }

    // ---- 25: put

    /** "BAD_VALUE if there is no character" */
    private static void putNoCharacter() {
        unchanged("25: put(0)", x -> x.put(0), BAD_VALUE);
        Twins.unchanged("25: put(0) on an empty pad", TimingLights::new, x -> x.put(0), BAD_VALUE);
        Twins.unchanged("25: put(0) on a full pad", () -> filled(80), x -> x.put(0), BAD_VALUE);
    }

    /** "a code is not 33 to 126" */
    private static void putCodes() {
        for (int code = 1; code <= 255; code++) {
            boolean good = code >= 33 && code <= 126;
            for (int length = 1; length <= 8; length++) {
                for (int place = 0; place < length; place++) {
                    long others = Check.packed("pppppppp".substring(0, length)) & ~(255L << 8 * place);
                    TimingLights x = new TimingLights();
                    Check.due("25: code " + code + " at " + place + " of " + length,
                            x.put(others | (long) code << 8 * place), good ? length : BAD_VALUE);
                    Check.due("25: the pad then", x.count(12), good ? length : 0);
                }
            }
        }
        for (int code : new int[] {1, 31, 32, 127, 128, 160, 255}) {
            unchanged("25: code " + code, x -> x.put(code), BAD_VALUE);
            unchanged("25: code " + code + " behind a good one", x -> x.put('p' << 8 | code), BAD_VALUE);
            unchanged("25: code " + code + " ahead of a good one", x -> x.put(code << 8 | 'p'), BAD_VALUE);
        }
    }

    /** "8 bits that are 0 mean that there are no more characters, and everything above them has to be 0, too." */
    private static void putZeroBits() {
        for (int zero = 0; zero < 8; zero++) {
            long below = Check.packed("pppppppp") & ~(-1L << 8 * zero);
            Check.due("25: " + zero + " characters", new TimingLights().put(below), zero == 0 ? BAD_VALUE : zero);
            for (int bit = 8 * zero + 8; bit < 64; bit++) {
                long characters = below | 1L << bit;
                unchanged("25: 0 bits at " + zero + " and bit " + bit, x -> x.put(characters), BAD_VALUE);
            }
        }
        unchanged("25: all bits", x -> x.put(-1), BAD_VALUE);
        unchanged("25: the lowest long", x -> x.put(Long.MIN_VALUE), BAD_VALUE);
        unchanged("25: the highest long", x -> x.put(Long.MAX_VALUE), BAD_VALUE);
    }

    /** "1 to 8 characters"; "Returns the length of the pad then"; "its lowest 8 bits are the last character" */
    private static void putOneToEight() {
        String text = "w0g-7;p;";
        for (int first = 1; first <= 8; first++) {
            TimingLights x = Check.reel(1, 10);
            Check.due("25: the first " + first, x.put(Check.packed(text.substring(0, first))), first);
            if (first < 8) {
                Check.due("25: the others", x.put(Check.packed(text.substring(first))), 8);
            }
            Check.due("25: one more", x.put('a'), 9);
            Check.due("25: in their order", x.carryOut(), 3);
            Check.due("25: the wish", x.inColour(0, 1, 1), 3);
            Check.due("25: corrected", x.inColour(0, 1, 2), 18);
        }
        TimingLights y = new TimingLights();
        Check.due("25: the least codes", y.put(Check.packed("!!!!!!!!")), 8);
        Check.due("25: the most codes", y.put(Check.packed("~~~~~~~~")), 16);
        Check.due("25: it is no change", y.count(13), 0);
    }

    /** "The pad is a text of at most 80 characters"; "TOO_MANY if the pad would be longer than 80" */
    private static void padAtMostEighty() {
        for (int length = 71; length <= 80; length++) {
            for (int more = 1; more <= 8; more++) {
                int before = length;
                long characters = Check.packed(";p;p;p;p".substring(0, more));
                if (length + more > 80) {
                    Twins.unchanged("25: " + more + " behind " + length, () -> filled(before),
                            x -> x.put(characters), TOO_MANY);
                } else {
                    Check.due("25: " + more + " behind " + length, filled(length).put(characters), length + more);
                }
            }
        }
        TimingLights x = filled(80);
        Check.due("25: a bad code ahead of too many", x.put(32), BAD_VALUE);
        Check.due("25: a good text of 80", x.fault(), NONE);
        Check.due("25: carried out", x.carryOut(), 40);
        Check.due("25: the pad is empty", x.count(12), 0);
        Check.due("25: it takes characters again", x.put('p'), 1);
    }

    /** A pad of so many characters, from 2 on: a good text, if the length is even. */
    private static TimingLights filled(int length) {
        TimingLights x = Check.reel(1, 10);
        x.light(0, 0, 40);
        x.print();
        Check.type(x, ("c0" + ";p".repeat(40)).substring(0, length));
        return x;
    }

    // ---- 26: wipe

    /** "Empties the pad, and returns the length that it had." */
    private static void wipeBounds() {
        Twins.unchanged("26: an empty pad", TimingLights::new, TimingLights::wipe, 0);
        for (int length = 2; length <= 80; length++) {
            TimingLights x = filled(length);
            Check.due("26: wiped", x.wipe(), length);
            Check.due("26: empty", x.count(12), 0);
            Check.due("26: no text", x.fault(), 0);
            Check.due("26: again", x.wipe(), 0);
            Check.due("26: no change", x.count(13), 3);
        }
        TimingLights y = typed("l0r=4");
        y.wipe();
        Check.due("26: nothing of the old text", y.put('p'), 1);
        Check.due("26: only the new one", y.fault(), NONE);
        TimingLights full = filled(80);
        full.wipe();
        Check.due("26: there is room again", Check.type(full, ";".repeat(80)), 80);
    }

    // ---- 27: fault

    /** "The fault is the index of the first character that cannot stand at its place when the text is read .." */
    private static void faultIsTheFirstThatCannotStand() {
        for (String[] row : BEGINNINGS) {
            for (char next = 33; next <= 126; next++) {
                boolean stands = row[1].indexOf(next) >= 0;
                String text = row[0] + next;
                int fault = typed(text).fault();
                if (!stands) {
                    Check.due("27: " + text, fault, row[0].length());
                } else if (fault != NONE) {
                    Check.due("27: it only ends too early: " + text, fault, text.length());
                }
                if (stands && next == ';') {
                    Check.due("27: an order is due: " + text, fault, text.length());
                }
                Check.due("27: the first one of two: " + text + "!", typed(text + "!").fault(),
                        stands ? text.length() : row[0].length());
                Check.due("27: the first one, in a longer text: " + text, typed(text + ";p;!!").fault(),
                        !stands ? row[0].length() : fault == NONE ? text.length() + 3 : text.length());
            }
        }
        unchanged("27: a good text", TimingLights::fault, NONE);
        Twins.unchanged("27: a fault", Reels::richWithFault, TimingLights::fault, 20);
        Twins.unchanged("27: an empty pad", TimingLights::new, TimingLights::fault, 0);
    }

    /** "A number is 0 to 99, without leading zeros."; "(also of a digit by which a number would be above 99)" */
    private static void faultOfNumbers() {
        String[] parts = {"s#:1,1,1", "s1:#,1,1", "s1:1,#,1", "s1:1,1,#", "l#r=1", "l1g=#", "w#b+1", "w1r+#", "w1g-#",
                "m#>1", "m1>#", "c#", "p;a;c#;k"};
        for (String order : parts) {
            int start = order.indexOf('#');
            for (int number = 0; number <= 99; number++) {
                Check.due("27: " + number + " in " + order, typed(order.replace("#", "" + number)).fault(), NONE);
            }
            for (int number : new int[] {100, 101, 110, 500, 990, 999}) {
                Check.due("27: " + number + " in " + order, typed(order.replace("#", "" + number)).fault(), start + 2);
            }
            for (String number : new String[] {"00", "01", "09", "050", "007", "000"}) {
                Check.due("27: " + number + " in " + order, typed(order.replace("#", number)).fault(), start + 1);
            }
            for (String number : new String[] {"", "+1", "-1", "x", ".5", "r"}) {
                Check.due("27: '" + number + "' in " + order, typed(order.replace("#", number)).fault(), start);
            }
        }
        Check.due("27: the digit ahead of a fault behind it", typed("c100!").fault(), 3);
        Check.due("27: the third digit is a fault, whatever comes", typed("c1000000").fault(), 3);
    }

    /** "if there is none and the text ends too early (also if it is empty), it is the length of the text" */
    private static void faultIfItEndsTooEarly() {
        Check.due("27: an empty text", new TimingLights().fault(), 0);
        for (String[] row : BEGINNINGS) {
            boolean whole = row[1].indexOf(';') >= 0;
            Check.due("27: ends behind " + row[0], typed(row[0]).fault(), whole ? NONE : row[0].length());
            Check.due("27: ends, behind another order, behind " + row[0], typed("c12;" + row[0]).fault(),
                    whole ? NONE : 4 + row[0].length());
        }
    }

    private static void faultOfTheLongest() {
        String orders = "p" + ";p".repeat(39);
        Check.due("27: 79 characters", typed(orders).fault(), NONE);
        Check.due("27: ends too early at 80", typed(orders + ";").fault(), 80);
        Check.due("27: a fault at 79", typed(orders + "p").fault(), 79);
        Check.due("27: 80 characters", typed("c7" + ";p".repeat(39)).fault(), NONE);
        Check.due("27: a number that ends it", typed("p" + ";p".repeat(38) + ";c0").fault(), NONE);
        Check.due("27: no number that ends it", typed("p" + ";p".repeat(38) + ";m1").fault(), 80);
        Check.due("27: a zero too much", typed("c7" + ";p".repeat(37) + ";c00").fault(), 80 - 1);
        Check.due("27: 80 characters, a fault at 0", typed("x".repeat(80)).fault(), 0);
    }

    // ---- 28: carryOut

    /** "BAD_TEXT if the pad has a fault (then it stays)" */
    private static void carryOutRefused() {
        Twins.unchanged("28: an empty pad", TimingLights::new, TimingLights::carryOut, BAD_TEXT);
        Twins.unchanged("28: a text that ends too early", Reels::richWithFault, TimingLights::carryOut, BAD_TEXT);
        for (String text : new String[] {"x", "l0r=7;", "l0r=7;;p", "l0r=7;c100", "l0r=7;m0>01", ";l0r=7"}) {
            Twins.unchanged("28: " + text, () -> {
                TimingLights x = Reels.rich();
                x.wipe();
                Check.type(x, text);
                return x;
            }, TimingLights::carryOut, BAD_TEXT);
        }
        TimingLights x = Check.reel(2, 10);
        Check.type(x, "l0r=7;m0");
        Check.due("28: refused", x.carryOut(), BAD_TEXT);
        Check.due("28: refused again", x.carryOut(), BAD_TEXT);
        Check.due("28: nothing of it is carried out", x.inColour(0, 0, 2), 25);
        Check.due("28: it stays", x.put(Check.packed(">1")), 10);
        Check.due("28: and is carried out when it is whole", x.carryOut(), 2);
        Check.due("28: all of it", x.inColour(1, 0, 2), 7);
    }

    /** "s": shot() at the end ..; "l": light() ..; "w": wish(); "m": move(); "p": print(); "c": correct() .. */
    private static void carryOutAsTheCalls() {
        asTheCall("s1:0,50,25", x -> x.shot(4, 1, 0, 50, 25));
        asTheCall("s99:50,0,1", x -> x.shot(4, 99, 50, 0, 1));
        asTheCall("l0r=0", x -> x.light(0, 0, 0));
        asTheCall("l3g=50", x -> x.light(3, 1, 50));
        asTheCall("l1b=10", x -> x.light(1, 2, 10));
        asTheCall("w0r+10", x -> x.wish(0, 0, 10));
        asTheCall("w3g-10", x -> x.wish(3, 1, -10));
        asTheCall("w1b+0", x -> x.wish(1, 2, 0));
        asTheCall("w1g-0", x -> x.wish(1, 1, 0));
        asTheCall("w2b-1", x -> x.wish(2, 2, -1));
        asTheCall("m0>3", x -> x.move(0, 3));
        asTheCall("m3>0", x -> x.move(3, 0));
        asTheCall("m1>1", x -> x.move(1, 1));
        asTheCall("p", TimingLights::print);
        asTheCall("c0", x -> x.correct(0));
        asTheCall("c2", x -> x.correct(2));
        asTheCall("a", TimingLights::correctAll);
        asTheCall("k", TimingLights::card);
    }

    private static void asTheCall(String order, ToIntFunction<TimingLights> call) {
        Twins.alike("28: " + order, () -> carriedOut(order, 1), () -> {
            TimingLights x = Reels.rich();
            x.wipe();
            call.applyAsInt(x);
            return x;
        });
    }

    /** "up to the first one that returns an error, and empties the pad"; "Returns how many orders were carried out" */
    private static void carryOutUpToTheFirstError() {
        String[] lights = {"l0r=1", "l0g=2", "l0b=3", "l1r=4", "l1g=5", "l1b=6"};
        for (int wrong = 0; wrong <= lights.length; wrong++) {
            StringBuilder text = new StringBuilder();
            for (int order = 0; order < lights.length; order++) {
                text.append(order == 0 ? "" : ";").append(order == wrong ? "l2r=0" : lights[order]);
            }
            TimingLights x = Check.reel(2, 10);
            Check.type(x, text.toString());
            Check.due("28: an error at " + wrong, x.carryOut(), wrong);
            for (int order = 0; order < lights.length; order++) {
                Check.due("28: light " + order + ", an error at " + wrong, x.inColour(order / 3, order % 3, 2),
                        order < wrong ? order + 1 : 25);
            }
            Check.due("28: the pad is empty", x.count(12), 0);
            Check.due("28: one change", x.count(13), 3);
            Check.due("28: undone", x.undo(), 2);
            Check.due("28: the first light as before", x.inColour(0, 0, 2), 25);
            Check.due("28: the pad stays empty", x.count(12), 0);
        }
    }

    /** Each order just inside and just outside of its bounds; an order that is refused changes nothing. */
    private static void carryOutEachError() {
        String[] good = {"s1:1,1,1", "s99:50,50,50", "l0r=0", "l3b=50", "w0r+10", "w3b-10", "m0>3", "m3>0", "c2"};
        String[] bad = {"s0:1,1,1", "s1:51,1,1", "s1:1,51,1", "s1:1,1,51", "l4r=1", "l99r=1", "l0r=51", "l0r=99",
                "w4r+1", "w0r+11", "w0g-11", "w0b-99", "m4>0", "m0>4", "m99>99", "c3", "c4", "c99"};
        for (String order : good) {
            TimingLights x = Reels.rich();
            x.wipe();
            Check.type(x, order + ";k");
            Check.due("28: " + order, x.carryOut(), 2);
        }
        for (String order : bad) {
            Twins.alike("28: " + order, () -> carriedOut(order + ";l0r=9;p", 0), () -> carriedOut("c99", 0));
            Twins.alike("28: k;" + order, () -> carriedOut("k;" + order + ";p", 1), () -> carriedOut("k", 1));
        }
        TimingLights none = typed("p;s1:1,1,1");
        Check.due("28: no shot to print", none.carryOut(), 0);
        Check.due("28: none came", none.count(0), 0);
        Check.type(none, "a;k;c0");
        Check.due("28: no shot to correct", none.carryOut(), 2);
        TimingLights full = Check.reel(19, 99);
        Check.type(full, "s1:1,1,1;s1:1,1,1;p");
        Check.due("28: the twentieth, and one too many", full.carryOut(), 1);
        Check.due("28: no print", full.count(2), 0);
        Check.due("28: it is the last one", full.of(19, 0), 1);
        TimingLights old = Reels.printed(20, 99, 48);
        Check.type(old, "p;p;l0r=0");
        Check.due("28: 980 hours, and not 1000", old.carryOut(), 1);
        Check.due("28: its light", old.inColour(0, 0, 2), 25);
        Check.due("28: its age", old.ofLamp(0, 0), 980);
    }

    private static TimingLights carriedOut(String text, int orders) {
        TimingLights x = Reels.rich();
        x.wipe();
        Check.type(x, text);
        Check.due("28: " + text, x.carryOut(), orders);
        return x;
    }

    /** "This is a change (one, with all of them; also if none is carried out)." */
    private static void carryOutIsOneChange() {
        for (String text : new String[] {"k", "k;k", "a;p;k;l0r=3;m0>1;w0b-3", "c9", "l0r=51;k"}) {
            TimingLights x = Check.reel(2, 10);
            x.light(0, 0, 17);
            Check.type(x, text);
            Check.due("28: three changes ahead", x.count(13), 3);
            x.carryOut();
            Check.due("28: one more by " + text, x.count(13), 4);
            Check.due("28: undone", x.undo(), 3);
            Check.due("28: as it was ahead of " + text, x.inColour(0, 0, 2), 17);
            Check.due("28: no print", x.count(2), 0);
            Twins.alike("28: all as it was ahead of " + text, () -> undone(text), () -> undone(""));
        }
    }

    private static TimingLights undone(String text) {
        TimingLights x = Check.reel(2, 10);
        x.light(0, 0, 17);
        if (!text.isEmpty()) {
            Check.type(x, text);
            x.carryOut();
            x.undo();
        }
        return x;
    }

    private static void carryOutTheMost() {
        TimingLights x = Check.reel(20, 1);
        Check.type(x, "a" + ";a".repeat(39));
        Check.due("28: forty orders", x.carryOut(), 40);
        Check.due("28: one change", x.count(13), 6);
        Check.type(x, "c7" + ";p".repeat(39));
        Check.due("28: none of forty", x.carryOut(), 0);
        Check.due("28: no print", x.count(2), 0);
        Check.type(x, "k" + ";p".repeat(39));
        Check.due("28: forty of forty", x.carryOut(), 40);
        Check.due("28: prints", x.count(2), 39);
        Check.due("28: undone as one", x.undo(), 5);
        Check.due("28: no print again", x.count(2), 0);
        Check.due("28: no answer again", x.count(4), 0);
    }
}
