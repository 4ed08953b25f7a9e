import java.util.function.Supplier;
import java.util.function.ToIntFunction;

/**
 * Two objects made alike, of which one gets a call more: if the call is to change nothing, both tell the same then, and
 * go on alike. The document promises nothing behind the 512th call, so a long row of questions is put to several
 * objects, each made anew.
 */
final class Twins {
    private static final int QUESTIONS_AT_ONCE = 300;
    private static final int QUESTIONS_OF_ALL = 34;
    private static final int QUESTIONS_OF_A_SHOT = 29;
    private static final int WAYS_ON = 13;

    private Twins() {
    }

    /** The call answers what is due and changes nothing: not what is told, nor what undo and the slots give back. */
    static void unchanged(String name, Supplier<TimingLights> making, ToIntFunction<TimingLights> call, int due) {
        Check.due(name, call.applyAsInt(making.get()), due);
        alike(name, () -> {
            TimingLights x = making.get();
            call.applyAsInt(x);
            return x;
        }, making);
    }

    /** Both tell the same, whatever is undone, restored or carried out then. */
    static void alike(String name, Supplier<TimingLights> making, Supplier<TimingLights> other) {
        for (int way = 0; way < WAYS_ON; way++) {
            int how = way;
            Check.due(name + ", then " + way(way), goOn(making.get(), way), goOn(other.get(), way));
            same(name + ", then " + way(way), () -> gone(making, how), () -> gone(other, how));
        }
    }

    /** Both tell the same now. */
    static void same(String name, Supplier<TimingLights> making, Supplier<TimingLights> other) {
        int[] told = everything(making);
        int[] due = everything(other);
        Check.due(name + ", how much is told", told.length, due.length);
        for (int question = 0; question < Math.min(told.length, due.length); question++) {
            Check.due(name + ", question " + question, told[question], due[question]);
        }
    }

    private static TimingLights gone(Supplier<TimingLights> making, int way) {
        TimingLights x = making.get();
        goOn(x, way);
        return x;
    }

    private static String way(int way) {
        return way <= 7 ? way + " undo" : new String[] {"restore(0)", "restore(1)", "carryOut", "wipe", "put"}[way - 8];
    }

    private static int goOn(TimingLights x, int way) {
        switch (way) {
            case 8:
                return x.restore(0);
            case 9:
                return x.restore(1);
            case 10:
                return x.carryOut();
            case 11:
                return x.wipe();
            case 12:
                return x.put(Check.packed(">1")) * 1000 + x.carryOut();
            default:
                int answers = 0;
                for (int undone = 0; undone < way; undone++) {
                    answers = answers * 10 + x.undo() + 5;
                }
                return answers;
        }
    }

    private static int[] everything(Supplier<TimingLights> making) {
        TimingLights x = making.get();
        int[] told = new int[QUESTIONS_OF_ALL + QUESTIONS_OF_A_SHOT * x.count(0)];
        for (int question = 0; question < told.length; question++) {
            if (question > 0 && question % QUESTIONS_AT_ONCE == 0) {
                x = making.get();
            }
            told[question] = question < QUESTIONS_OF_ALL ? ofAll(x, question)
                    : ofAShot(x, (question - QUESTIONS_OF_ALL) / QUESTIONS_OF_A_SHOT,
                            (question - QUESTIONS_OF_ALL) % QUESTIONS_OF_A_SHOT);
        }
        return told;
    }

    private static int ofAll(TimingLights x, int question) {
        if (question < 14) {
            return x.count(question);
        } else if (question < 23) {
            return x.ofLamp((question - 14) % 3, (question - 14) / 3);
        } else if (question < 26) {
            return x.lasts(question - 23);
        } else if (question < 32) {
            return x.bestTrim((question - 26) % 3, (question - 26) / 3);
        }
        return question == 32 ? x.printsNeeded() : x.fault();
    }

    private static int ofAShot(TimingLights x, int place, int question) {
        if (question < 5) {
            return x.of(place, question);
        } else if (question < 23) {
            return x.inColour(place, (question - 5) % 3, (question - 5) / 3);
        } else if (question < 26) {
            return x.needs(place, question - 23);
        }
        return x.ifLight(place, question - 26, 30);
    }
}
