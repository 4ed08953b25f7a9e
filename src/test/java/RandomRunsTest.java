import java.util.Random;

/** Runs of 512 calls, drawn with fixed seeds, on an object and on the model: each answer is compared. */
public final class RandomRunsTest {
    private static final int RUNS = 2500;
    private static final int CALLS = 512;
    private static final int[] EXTREMES = {-1, Integer.MIN_VALUE, Integer.MAX_VALUE, 100, 51, -21, 256};

    private final Random random;
    private final TimingLights x = new TimingLights();
    private final Model m = new Model();
    private final int wild;
    private final int fill;
    private final int run;
    private int calls;

    private RandomRunsTest(int run) {
        this.run = run;
        random = new Random(run);
        wild = 3 + random.nextInt(60);
        fill = random.nextInt(4);
    }

    public static void main(String[] args) {
        for (int run = 1; run <= RUNS; run++) {
            new RandomRunsTest(run).run();
        }
        Check.end();
    }

    private void run() {
        int looking = 50 + random.nextInt(CALLS - 50);
        while (calls < looking) {
            call();
        }
        while (calls < CALLS) {
            look();
        }
    }

    private int in(int least, int most) {
        if (random.nextInt(wild) == 0) {
            return random.nextBoolean() ? EXTREMES[random.nextInt(EXTREMES.length)]
                    : random.nextBoolean() ? least - 1 : most + 1;
        }
        return least + random.nextInt(most - least + 1);
    }

    private int place() {
        return in(0, Math.max(0, m.count(0) - 1));
    }

    private int density() {
        return random.nextInt(3) == 0 ? in(0, 50) : in(20, 30);
    }

    /** What is answered behind the last call of all is free. */
    private void due(String call, int got, int want) {
        calls++;
        if (calls <= CALLS) {
            Check.due("run " + run + ": " + call, got, want);
        }
    }

    private void call() {
        int kind = random.nextInt(34 + 3 * fill);
        if (kind < 16) {
            change(kind);
        } else if (kind < 20) {
            see(kind);
        } else if (kind < 25) {
            ask(kind);
        } else if (kind < 29) {
            text(kind);
        } else if (kind < 32) {
            goBack(kind);
        } else if (kind % 2 == 0) {
            change(1);
        } else {
            change(8);
        }
    }

    private void change(int kind) {
        int place = place(), colour = in(0, 2), other = place();
        switch (kind) {
            case 0: {
                int setting = in(0, 3), value = in(0, new int[] {5, 9, 40, 50}[setting & 3]);
                due("set(" + setting + ", " + value + ")", x.set(setting, value), m.set(setting, value));
                return;
            }
            case 1: case 14: {
                int at = in(0, m.count(0)), feet = in(1, 99), r = density(), g = density(), b = density();
                due("shot(" + at + ", " + feet + ", " + r + ", " + g + ", " + b + ")", x.shot(at, feet, r, g, b),
                        m.shot(at, feet, r, g, b));
                return;
            }
            case 2:
                if (random.nextInt(3) > 0) {
                    return;
                }
                due("takeOut(" + place + ")", x.takeOut(place), m.takeOut(place));
                return;
            case 3: {
                int points = in(0, 50);
                due("light(" + place + ", " + colour + ", " + points + ")", x.light(place, colour, points),
                        m.light(place, colour, points));
                return;
            }
            case 4: {
                int points = in(-10, 10);
                due("wish(" + place + ", " + colour + ", " + points + ")", x.wish(place, colour, points),
                        m.wish(place, colour, points));
                return;
            }
            case 5:
                due("move(" + place + ", " + other + ")", x.move(place, other), m.move(place, other));
                return;
            case 6: {
                int feet = in(1, 98);
                due("split(" + place + ", " + feet + ")", x.split(place, feet), m.split(place, feet));
                return;
            }
            case 7:
                due("join(" + place + ")", x.join(place), m.join(place));
                return;
            case 8: case 15:
                due("print()", x.print(), m.print());
                return;
            case 9:
                due("correct(" + place + ")", x.correct(place), m.correct(place));
                return;
            case 10:
                due("correctAll()", x.correctAll(), m.correctAll());
                return;
            case 11:
                due("card()", x.card(), m.card());
                return;
            case 12: {
                int points = in(-20, 20);
                due("trim(" + colour + ", " + points + ")", x.trim(colour, points), m.trim(colour, points));
                return;
            }
            default:
                if (random.nextInt(1 + fill) == 0) {
                    due("lamp(" + colour + ")", x.lamp(colour), m.lamp(colour));
                }
        }
    }

    private void see(int kind) {
        int place = place(), colour = in(0, 2);
        if (kind == 16) {
            int what = in(0, 4);
            due("of(" + place + ", " + what + ")", x.of(place, what), m.of(place, what));
        } else if (kind == 17) {
            int what = in(0, 5);
            due("inColour(" + place + ", " + colour + ", " + what + ")", x.inColour(place, colour, what),
                    m.inColour(place, colour, what));
        } else if (kind == 18) {
            int what = in(0, 2);
            due("ofLamp(" + colour + ", " + what + ")", x.ofLamp(colour, what), m.ofLamp(colour, what));
        } else {
            int what = in(0, 13);
            due("count(" + what + ")", x.count(what), m.count(what));
        }
    }

    private void ask(int kind) {
        int place = place(), colour = in(0, 2);
        if (kind == 20) {
            due("needs(" + place + ", " + colour + ")", x.needs(place, colour), m.needs(place, colour));
        } else if (kind == 21) {
            int points = in(0, 50);
            due("ifLight(" + place + ", " + colour + ", " + points + ")", x.ifLight(place, colour, points),
                    m.ifLight(place, colour, points));
        } else if (kind == 22 && random.nextInt(3) == 0) {
            due("lasts(" + colour + ")", x.lasts(colour), m.lasts(colour));
        } else if (kind == 23) {
            int what = in(0, 1);
            due("bestTrim(" + colour + ", " + what + ")", x.bestTrim(colour, what), m.bestTrim(colour, what));
        } else {
            due("printsNeeded()", x.printsNeeded(), m.printsNeeded());
        }
    }

    private void text(int kind) {
        if (kind == 25 || kind == 26) {
            put(orders());
            due("fault()", x.fault(), m.fault());
        } else if (kind == 27) {
            due("carryOut()", x.carryOut(), m.carryOut());
        } else if (random.nextInt(4) == 0) {
            due("wipe()", x.wipe(), m.wipe());
        } else {
            long characters = random.nextLong() >>> 8 * random.nextInt(9);
            due("put(" + characters + ")", x.put(characters), m.put(characters));
            due("fault()", x.fault(), m.fault());
        }
    }

    private void put(String text) {
        for (int start = 0; start < text.length(); ) {
            int end = Math.min(text.length(), start + 1 + random.nextInt(8));
            long characters = Check.packed(text.substring(start, end));
            due("put(" + characters + ")", x.put(characters), m.put(characters));
            start = end;
        }
    }

    private String orders() {
        StringBuilder text = new StringBuilder(m.count(12) > 0 && random.nextInt(9) > 0 ? ";" : "");
        for (int left = random.nextInt(6); left >= 0; left--) {
            text.append(order()).append(left > 0 ? ";" : "");
        }
        if (random.nextInt(4) == 0 && text.length() > 0) {
            text.setCharAt(random.nextInt(text.length()), "0123456789rgb+->=;:,slwmpcak".charAt(random.nextInt(28)));
        }
        return text.toString();
    }

    private String order() {
        int place = Math.max(0, place()) % 100;
        String at = place + "" + "rgb".charAt(random.nextInt(3));
        switch (random.nextInt(8)) {
            case 0:
                return "s" + (1 + random.nextInt(99)) + ":" + Math.abs(density() % 99) + "," + random.nextInt(51)
                        + ",25";
            case 1:
                return "l" + at + "=" + random.nextInt(52);
            case 2:
                return "w" + at + (random.nextBoolean() ? "+" : "-") + random.nextInt(12);
            case 3:
                return "m" + place + ">" + Math.max(0, place()) % 100;
            case 4:
                return "p";
            case 5:
                return "c" + place;
            case 6:
                return "a";
            default:
                return "k";
        }
    }

    private void goBack(int kind) {
        int slot = in(0, 1);
        if (kind == 29) {
            due("undo()", x.undo(), m.undo());
        } else if (kind == 30) {
            due("save(" + slot + ")", x.save(slot), m.save(slot));
        } else {
            due("restore(" + slot + ")", x.restore(slot), m.restore(slot));
        }
    }

    /** Anything that can be seen, and now and then that of an earlier state. */
    private void look() {
        int kind = random.nextInt(30);
        if (kind == 0) {
            due("undo() at the end", x.undo(), m.undo());
        } else if (kind < 8) {
            int what = random.nextInt(14);
            due("count(" + what + ") at the end", x.count(what), m.count(what));
        } else {
            see(16 + random.nextInt(3));
        }
    }
}
