/** Promises 25 to 28: texts. */
public final class TextTest {
    public static void main(String[] args) {
        promise25Put();
        promise25Bounds();
        promise26Wipe();
        promise27Fault();
        promise27Numbers();
        promise28CarryOut();
        promise28Errors();
        promise28History();
        Check.end();
    }

    private static void promise25Put() {
        TimingLights x = new TimingLights();
        Check.due("25: no character", x.put(0), TimingLights.BAD_VALUE);
        Check.due("25: all bits", x.put(-1), TimingLights.BAD_VALUE);
        Check.due("25: code 32", x.put(32), TimingLights.BAD_VALUE);
        Check.due("25: code 127", x.put(127), TimingLights.BAD_VALUE);
        Check.due("25: code 200", x.put(200), TimingLights.BAD_VALUE);
        Check.due("25: code 32 in front", x.put(32L << 8 | 'p'), TimingLights.BAD_VALUE);
        Check.due("25: code 32 at the far front", x.put(32L << 56 | Check.packed("aaaaaaa")), TimingLights.BAD_VALUE);
        Check.due("25: code 128 at the far front", x.put(128L << 56 | Check.packed("aaaaaaa")), TimingLights.BAD_VALUE);
        Check.due("25: 0 at the end", x.put('p' << 8), TimingLights.BAD_VALUE);
        Check.due("25: 0 between", x.put('p' << 16 | 'p'), TimingLights.BAD_VALUE);
        Check.due("25: one bit above", x.put(1L << 63 | 'p'), TimingLights.BAD_VALUE);
        Check.due("25: nothing came", x.count(12), 0);
        Check.due("25: code 33", x.put(33), 1);
        Check.due("25: code 126", x.put(126), 2);
        Check.due("25: eight", x.put(Check.packed("abcdefgh")), 10);
        Check.due("25: it is no change", x.count(13), 0);
        TimingLights y = new TimingLights();
        y.shot(0, 10, 25, 25, 25);
        y.put(Check.packed("l0"));
        y.put(Check.packed("g=47"));
        Check.due("25: the first character is the highest", y.carryOut(), 1);
        Check.due("25: 47", y.inColour(0, 1, 2), 47);
    }

    private static void promise25Bounds() {
        TimingLights x = new TimingLights();
        for (int length = 8; length <= 72; length += 8) {
            Check.due("25: eight more", x.put(Check.packed("p;p;p;p;")), length);
        }
        Check.due("25: seven more", x.put(Check.packed("p;p;p;p")), 79);
        Check.due("25: two too many", x.put(Check.packed(";p")), TimingLights.TOO_MANY);
        Check.due("25: value ahead of too many", x.put(32L << 8 | 'p'), TimingLights.BAD_VALUE);
        Check.due("25: the pad is as before", x.count(12), 79);
        Check.due("25: eighty", x.put(';'), 80);
        Check.due("25: one too many", x.put('p'), TimingLights.TOO_MANY);
        Check.due("25: it ends too early", x.fault(), 80);
    }

    private static void promise26Wipe() {
        TimingLights x = new TimingLights();
        Check.due("26: an empty one", x.wipe(), 0);
        Check.type(x, "p;c0");
        Check.due("26: four", x.wipe(), 4);
        Check.due("26: it is empty", x.count(12), 0);
        Check.due("26: nothing is left of it", x.fault(), 0);
        Check.due("26: it is no change", x.count(13), 0);
        Check.due("26: from the start again", Check.type(x, "p"), 1);
        Check.due("26: a good text", x.fault(), TimingLights.NONE);
    }

    private static void promise27Fault() {
        checkFault("", 0);
        for (String good : new String[] {"s1:2,3,4", "s99:99,99,99", "l0r=0", "l19g=50", "l3b=7", "w0r+0", "w12g-10",
                "m0>19", "p", "c0", "c99", "a", "k", "p;a;k;c1", "s60:0,0,0;l0r=30;w0b-1;m0>0"}) {
            checkFault(good, TimingLights.NONE);
            checkFault(good + ";", good.length() + 1);
            checkFault(good + ";;", good.length() + 1);
            checkFault(good + "!", good.length());
            checkFault(good + "p", good.length());
        }
        for (String early : new String[] {"s", "s1", "s1:", "s1:2", "s1:2,", "s1:2,3", "s1:2,3,", "l", "l0", "l0r",
                "l0r=", "w", "w10", "w10b", "w10b+", "w10b-", "m", "m1", "m1>", "c", "p;", "p;c"}) {
            checkFault(early, early.length());
            checkFault(early + "?", early.length());
        }
        checkFault("x", 0);
        checkFault("P", 0);
        checkFault(";p", 0);
        checkFault("1", 0);
        checkFault("l0w=1", 2);
        checkFault("l0r+1", 3);
        checkFault("w0r=1", 3);
        checkFault("w0r1", 3);
        checkFault("w0r+-1", 4);
        checkFault("m1<2", 2);
        checkFault("m1=2", 2);
        checkFault("s1,2,3,4", 2);
        checkFault("s1:2:3,4", 4);
        checkFault("s1:2,3;4", 6);
        checkFault("s1:2,3,4,5", 8);
        checkFault("l0rg=1", 3);
        checkFault("c-1", 1);
        checkFault("p0", 1);
        checkFault("a;k;x", 4);
    }

    private static void promise27Numbers() {
        checkFault("c00", 2);
        checkFault("c01", 2);
        checkFault("c100", 3);
        checkFault("c999", 3);
        checkFault("c10", TimingLights.NONE);
        checkFault("s00:1,1,1", 2);
        checkFault("s1:100,1,1", 5);
        checkFault("s1:1,1,05", 8);
        checkFault("l012r=1", 2);
        checkFault("l123r=1", 3);
        checkFault("l1r=500", 6);
        checkFault("w1r+00", 5);
        checkFault("m1>100", 5);
    }

    private static void checkFault(String text, int want) {
        TimingLights x = new TimingLights();
        Check.type(x, text);
        Check.due("27: the fault of '" + text + "'", x.fault(), want);
        Check.due("27: it stays", x.count(12), text.length());
        if (want != TimingLights.NONE) {
            Check.due("28: '" + text + "'", x.carryOut(), TimingLights.BAD_TEXT);
            Check.due("28: it stays", x.count(12), text.length());
            Check.due("28: no change", x.count(13), 0);
        }
    }

    private static void promise28CarryOut() {
        TimingLights x = new TimingLights();
        Check.type(x, "s60:10,20,30;s99:25,25,25;l0r=12;l1b=50;w0g-10;w1r+9;m0>1");
        Check.due("28: seven orders", x.carryOut(), 7);
        Check.due("28: the pad is empty", x.count(12), 0);
        Check.due("28: two shots", x.count(0), 2);
        Check.due("28: moved", x.of(1, 0), 60);
        Check.due("28: red", x.inColour(1, 0, 0), 10);
        Check.due("28: green", x.inColour(1, 1, 0), 20);
        Check.due("28: blue", x.inColour(1, 2, 0), 30);
        Check.due("28: light", x.inColour(1, 0, 2), 12);
        Check.due("28: the other light", x.inColour(0, 2, 2), 50);
        Check.due("28: wish below 0", x.inColour(1, 1, 1), 0);
        Check.due("28: wish above 0", x.inColour(0, 0, 1), 19);
        Check.type(x, "p;c1;a");
        Check.due("28: print, correct, correct all", x.carryOut(), 3);
        Check.due("28: a print", x.count(2), 1);
        Check.due("28: no answer is left", x.count(4), 0);
        Check.due("28: points", x.count(6), 2 + 15 + 5 + 25 + 9);
        x.set(TimingLights.RATE, 50);
        Check.type(x, "k");
        Check.due("28: card", x.carryOut(), 1);
        Check.due("28: the trim", x.ofLamp(0, 2), 21);
        Check.due("28: an empty pad", x.carryOut(), TimingLights.BAD_TEXT);
    }

    private static void promise28Errors() {
        String[] wrong = {"s0:1,1,1", "s1:51,1,1", "s1:1,51,1", "s1:1,1,51", "l1r=0", "l0r=51", "w1r+1", "w0r+11",
                "w0r-11", "m0>1", "m1>0", "c0", "c1"};
        for (String order : wrong) {
            TimingLights x = Check.reel(1, 10);
            Check.type(x, "l0g=1;" + order + ";l0b=2");
            Check.due("28: up to " + order, x.carryOut(), 1);
            Check.due("28: the one ahead", x.inColour(0, 1, 2), 1);
            Check.due("28: not the one behind", x.inColour(0, 2, 2), 25);
            Check.due("28: emptied", x.count(12), 0);
            Check.due("28: one change", x.count(13), 2);
        }
        TimingLights none = new TimingLights();
        Check.type(none, "p;k");
        Check.due("28: no shot to print", none.carryOut(), 0);
        TimingLights full = Check.reel(20, 99);
        Check.type(full, "s1:1,1,1");
        Check.due("28: too many", full.carryOut(), 0);
        Check.type(full, "p;p;p;p;p;p;p;p;p;p;p;p;p;p;p;p;p;p;p;p;p;p;p;p;p;p;p;p;p;p;p;p;p;p;p;p;p;p;p;p");
        Check.due("28: forty orders", full.fault(), TimingLights.NONE);
        Check.due("28: forty prints", full.carryOut(), 40);
        Check.due("28: 800 hours", full.ofLamp(0, 0), 800);
    }

    private static void promise28History() {
        TimingLights x = Check.reel(1, 10);
        Check.type(x, "l0r=1;l0g=2;l0b=3");
        Check.due("28: three orders", x.carryOut(), 3);
        Check.due("28: are one change", x.count(13), 2);
        Check.due("28: undone", x.undo(), 1);
        for (int colour = 0; colour < 3; colour++) {
            Check.due("28: light as before", x.inColour(0, colour, 2), 25);
        }
        Check.due("28: the pad stays empty", x.count(12), 0);
        Check.type(x, "c5");
        Check.due("28: none is carried out", x.carryOut(), 0);
        Check.due("28: it is a change all the same", x.count(13), 2);
    }
}
