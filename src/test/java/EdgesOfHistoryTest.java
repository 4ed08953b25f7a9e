import java.util.List;
import java.util.function.Supplier;
import java.util.function.ToIntFunction;

/** Promises 1 and 29 to 31, sentence by sentence: just inside and just outside of every boundary. */
public final class EdgesOfHistoryTest {
    private static final int BAD_VALUE = TimingLights.BAD_VALUE, NOT_POSSIBLE = TimingLights.NOT_POSSIBLE;
    private static final int[] WRONG_SLOTS = Reels.outside(0, 1);

    public static void main(String[] args) {
        aNewObjectIsEmpty();
        undoIfThereIsNone();
        undoOfEachChange();
        undoOfAChangeThatChangesNothing();
        undoAtMostSix();
        undoGivesBackEachState();
        undoLeavesPadAndSlots();
        othersRecordNothing();
        saveRefused();
        saveTellsShots();
        saveOverwrites();
        saveLeavesPadAndHistory();
        restoreRefused();
        restoreIsAChange();
        restoreOfEverything();
        restoreLeavesPadAndHistory();
        theSlotKeepsIt();
        Check.end();
    }

    // ---- 1: a new object

    /** "Creates an empty reel, and a printer with new lamps." */
    private static void aNewObjectIsEmpty() {
        TimingLights x = new TimingLights();
        for (int place = -1; place <= 20; place++) {
            Check.due("1: no shot " + place, x.of(place, 0), TimingLights.NO_SUCH);
        }
        for (int colour = 0; colour < 3; colour++) {
            Check.due("1: a new lamp", x.lamp(colour), 0);
        }
        TimingLights used = Reels.full();
        Check.due("1: another object", used.count(0), 20);
        Twins.alike("1: objects share nothing", TimingLights::new, () -> {
            TimingLights y = new TimingLights();
            Reels.full().save(0);
            return y;
        });
    }

    // ---- 29: undo

    /** "NOT_POSSIBLE if there is none" */
    private static void undoIfThereIsNone() {
        Twins.unchanged("29: a new object", TimingLights::new, TimingLights::undo, NOT_POSSIBLE);
        Twins.unchanged("29: all is undone", () -> {
            TimingLights x = Reels.rich();
            Reels.undoAll(x);
            return x;
        }, TimingLights::undo, NOT_POSSIBLE);
        TimingLights y = new TimingLights();
        y.card();
        Check.due("29: the only one", y.undo(), 0);
        Check.due("29: none more", y.undo(), NOT_POSSIBLE);
        y.print();
        y.set(4, 1);
        y.carryOut();
        y.restore(0);
        y.save(0);
        y.put('p');
        Check.due("29: none by calls that are refused, or no changes", y.undo(), NOT_POSSIBLE);
    }

    /** "everything except the pad, the slots and the history is as it was before it" */
    private static void undoOfEachChange() {
        undone("set", x -> x.set(TimingLights.JUMP, 40));
        undone("set to the least", x -> x.set(TimingLights.RATE, 0));
        undone("shot in front", x -> x.shot(0, 99, 50, 0, 50));
        undone("shot behind", x -> x.shot(4, 1, 0, 50, 0));
        undone("takeOut of the first", x -> x.takeOut(0));
        undone("takeOut of the last", x -> x.takeOut(3));
        undone("light", x -> x.light(3, 2, 50));
        undone("wish", x -> x.wish(0, 0, -10));
        undone("move", x -> x.move(0, 3));
        undone("split", x -> x.split(0, 59));
        undone("join", x -> x.join(0));
        undone("print", TimingLights::print);
        undone("correct", x -> x.correct(0));
        undone("correctAll", TimingLights::correctAll);
        undone("card", TimingLights::card);
        undone("trim", x -> x.trim(1, 20));
        undone("lamp", x -> x.lamp(2));
        undone("restore", x -> x.restore(0));
    }

    private static void undone(String name, ToIntFunction<TimingLights> change) {
        for (int before = 0; before <= 6; before++) {
            int undos = before;
            Supplier<TimingLights> making = () -> {
                TimingLights x = Reels.rich();
                for (int undo = 0; undo < undos; undo++) {
                    x.undo();
                }
                if (undos > 0) {
                    x.shot(0, 39, 10, 20, 30);
                    x.shot(0, 60, 10, 20, 30);
                    x.print();
                }
                return x;
            };
            TimingLights x = making.get();
            int changes = x.count(13);
            Check.due("29: " + name + " is no error", change.applyAsInt(x) >= 0 ? 1 : 0, 1);
            Check.due("29: " + name + " is recorded", x.count(13), Math.min(6, changes + 1));
            Check.due("29: " + name + " undone", x.undo(), Math.min(6, changes + 1) - 1);
            Twins.alike("29: as before " + name, () -> {
                TimingLights y = making.get();
                change.applyAsInt(y);
                y.undo();
                return fresh(y);
            }, () -> fresh(making.get()));
        }
    }

    /** With six more changes that leave all as it is: so that it can be compared, whatever its history was. */
    private static TimingLights fresh(TimingLights x) {
        for (int change = 0; change < 6; change++) {
            x.set(TimingLights.STEP, x.count(8));
        }
        return x;
    }

    /** "records the state before it (also if nothing is different then)" */
    private static void undoOfAChangeThatChangesNothing() {
        int changes = 0;
        TimingLights x = new TimingLights();
        Check.due("29: none to correct", x.correctAll(), 0);
        Check.due("29: correctAll", x.count(13), ++changes);
        Check.due("29: the same trims", x.card(), 0);
        Check.due("29: card", x.count(13), ++changes);
        Check.due("29: the same setting", x.set(TimingLights.STEP, 1), 1);
        Check.due("29: set", x.count(13), ++changes);
        Check.due("29: the same trim", x.trim(1, 0), 20);
        Check.due("29: trim", x.count(13), ++changes);
        Check.due("29: a new lamp for a new one", x.lamp(1), 0);
        Check.due("29: lamp", x.count(13), ++changes);
        TimingLights y = Check.reel(1, 10);
        Check.due("29: the same light", y.light(0, 0, 25), 25);
        Check.due("29: light", y.count(13), 2);
        Check.due("29: the same wish", y.wish(0, 0, 0), 10);
        Check.due("29: wish", y.count(13), 3);
        Check.due("29: to its own place", y.move(0, 0), 0);
        Check.due("29: move", y.count(13), 4);
        y.save(0);
        Check.due("29: what is so anyhow", y.restore(0), 1);
        Check.due("29: restore", y.count(13), 5);
        Check.type(y, "c0");
        Check.due("29: an order that is refused", y.carryOut(), 0);
        Check.due("29: carryOut", y.count(13), 6);
        for (int left = 5; left >= 1; left--) {
            Check.due("29: back", y.undo(), left);
            Check.due("29: the shot is there", y.count(0), 1);
        }
        Check.due("29: the shot", y.undo(), 0);
        Check.due("29: no shot", y.count(0), 0);
    }

    /** "A history of at most 6 states is kept"; "when one more is recorded, the oldest one is dropped" */
    private static void undoAtMostSix() {
        for (int changes = 1; changes <= 20; changes++) {
            TimingLights x = new TimingLights();
            for (int change = 1; change <= changes; change++) {
                x.trim(0, change);
                Check.due("29: kept", x.count(13), Math.min(6, change));
            }
            int kept = Math.min(6, changes);
            for (int back = 1; back <= kept; back++) {
                Check.due("29: undo " + back + " of " + changes, x.undo(), kept - back);
                Check.due("29: the trim then", x.ofLamp(0, 2), 20 + changes - back);
            }
            Check.due("29: no more", x.undo(), NOT_POSSIBLE);
            Check.due("29: the oldest state that was kept", x.ofLamp(0, 2), 20 + changes - kept);
        }
    }

    private static void undoGivesBackEachState() {
        TimingLights x = new TimingLights();
        for (int round = 0; round < 9; round++) {
            for (int change = 1; change <= 4; change++) {
                x.trim(0, change);
            }
            int kept = x.count(13);
            Check.due("29: back to 3", x.undo() * 100 + x.ofLamp(0, 2), (kept - 1) * 100 + 23);
            Check.due("29: back to 2", x.undo() * 100 + x.ofLamp(0, 2), (kept - 2) * 100 + 22);
            x.trim(0, 9);
            Check.due("29: another way on", x.undo() * 100 + x.ofLamp(0, 2), (kept - 2) * 100 + 22);
            Check.due("29: back to 1", x.undo() * 100 + x.ofLamp(0, 2), (kept - 3) * 100 + 21);
        }
    }

    private static void undoLeavesPadAndSlots() {
        TimingLights x = Check.reel(2, 10);
        Check.type(x, "l0r=3");
        x.save(0);
        x.light(0, 1, 7);
        x.save(1);
        x.wipe();
        Check.type(x, "l0b=4");
        for (int left = 2; left >= 0; left--) {
            Check.due("29: undo", x.undo(), left);
            Check.due("29: the pad", x.count(12), 5);
        }
        Check.due("29: slot 0", x.restore(0), 2);
        Check.due("29: its light", x.inColour(0, 1, 2), 25);
        Check.due("29: slot 1", x.restore(1), 2);
        Check.due("29: its light", x.inColour(0, 1, 2), 7);
        Check.due("29: the text", x.carryOut(), 1);
        Check.due("29: what it says", x.inColour(0, 2, 2), 4);
        TimingLights y = Check.reel(1, 10);
        y.save(1);
        y.undo();
        Check.due("29: a slot stays in use", y.restore(1), 1);
        Check.type(y, "k");
        y.carryOut();
        y.undo();
        Check.due("29: the pad stays empty", y.count(12), 0);
    }

    /** "each method that is a change, and returns no error, records": the others do not. */
    private static void othersRecordNothing() {
        List<ToIntFunction<TimingLights>> others = List.of(x -> x.of(0, 0), x -> x.inColour(0, 0, 0),
                x -> x.ofLamp(0, 0), x -> x.count(13), x -> x.needs(0, 0), x -> x.ifLight(0, 0, 0), x -> x.lasts(0),
                x -> x.bestTrim(0, 0), TimingLights::printsNeeded, x -> x.put('p'), TimingLights::fault,
                TimingLights::wipe, x -> x.save(0), x -> x.save(1));
        for (int changes = 0; changes <= 6; changes++) {
            for (int other = 0; other < others.size(); other++) {
                TimingLights x = Check.reel(changes, 10);
                others.get(other).applyAsInt(x);
                Check.due("29: no change is the call " + other, x.count(13), changes);
                Check.due("29: undone behind the call " + other, x.undo(), changes == 0 ? NOT_POSSIBLE : changes - 1);
                Check.due("29: shots then", x.count(0), Math.max(0, changes - 1));
            }
        }
    }

    // ---- 30: save

    /** "slot: 0 or 1"; "BAD_VALUE if there is no such slot" */
    private static void saveRefused() {
        for (int slot : WRONG_SLOTS) {
            Twins.unchanged("30: slot " + slot, Reels::rich, x -> x.save(slot), BAD_VALUE);
            Twins.unchanged("30: slot " + slot + ", both in use", Reels::richWithFault, x -> x.save(slot), BAD_VALUE);
            Twins.unchanged("30: slot " + slot + ", a new object", TimingLights::new, x -> x.save(slot), BAD_VALUE);
        }
    }

    /** "Returns how many shots there are." */
    private static void saveTellsShots() {
        for (int shots = 0; shots <= 20; shots++) {
            TimingLights x = Check.reel(shots, 10);
            Check.due("30: slot 0", x.save(0), shots);
            Check.due("30: slot 1", x.save(1), shots);
            Check.due("30: as many", x.count(0), shots);
            Check.due("30: no change", x.count(13), Math.min(6, shots));
        }
    }

    /** "and overwrites what was saved there" */
    private static void saveOverwrites() {
        for (int slot = 0; slot <= 1; slot++) {
            TimingLights x = Check.reel(1, 10);
            x.save(0);
            x.save(1);
            x.shot(1, 20, 1, 2, 3);
            Check.due("30: over one shot", x.save(slot), 2);
            x.shot(2, 30, 1, 2, 3);
            Check.due("30: the other slot", x.restore(1 - slot), 1);
            Check.due("30: this slot", x.restore(slot), 2);
            Check.due("30: its second shot", x.of(1, 0), 20);
            x.takeOut(0);
            x.takeOut(0);
            Check.due("30: an empty reel over two shots", x.save(slot), 0);
            x.restore(1 - slot);
            Check.due("30: it was empty", x.restore(slot), 0);
            Check.due("30: no shot", x.count(0), 0);
        }
    }

    /** "Saves everything except the pad, the history and the slots" */
    private static void saveLeavesPadAndHistory() {
        for (int slot = 0; slot <= 1; slot++) {
            int to = slot;
            TimingLights x = Reels.rich();
            Check.due("30: four shots", x.save(slot), 4);
            Check.due("30: six changes", x.count(13), 6);
            Check.due("30: the pad", x.count(12), 17);
            Twins.same("30: nothing else, slot " + slot, Reels::rich, () -> {
                TimingLights y = Reels.rich();
                y.save(to);
                return y;
            });
            Twins.same("30: undo all the same, slot " + slot, () -> undoThree(-1), () -> undoThree(to));
        }
    }

    private static TimingLights undoThree(int slot) {
        TimingLights x = Reels.rich();
        x.save(slot);
        x.undo();
        x.undo();
        x.undo();
        return x;
    }

    // ---- 31: restore

    /** "BAD_VALUE if there is no such slot; NOT_POSSIBLE if nothing was saved in it" */
    private static void restoreRefused() {
        for (int slot : WRONG_SLOTS) {
            Twins.unchanged("31: slot " + slot, Reels::rich, x -> x.restore(slot), BAD_VALUE);
            Twins.unchanged("31: slot " + slot + ", both used", Reels::richWithFault, x -> x.restore(slot), BAD_VALUE);
            Twins.unchanged("31: slot " + slot + ", none in use", TimingLights::new, x -> x.restore(slot), BAD_VALUE);
        }
        Twins.unchanged("31: nothing in slot 1", Reels::rich, x -> x.restore(1), NOT_POSSIBLE);
        Twins.unchanged("31: nothing in slot 0", Reels::full, x -> x.restore(0), NOT_POSSIBLE);
        Twins.unchanged("31: nothing in slot 1 of a new object", TimingLights::new, x -> x.restore(1), NOT_POSSIBLE);
        for (int slot = 0; slot <= 1; slot++) {
            TimingLights x = Check.reel(2, 10);
            x.save(slot);
            Check.due("31: the other slot", x.restore(1 - slot), NOT_POSSIBLE);
            Check.due("31: this slot", x.restore(slot), 2);
            TimingLights empty = new TimingLights();
            empty.save(slot);
            Check.due("31: an empty reel was saved", empty.restore(slot), 0);
            Check.due("31: nothing in the other slot", empty.restore(1 - slot), NOT_POSSIBLE);
        }
    }

    /** "This is a change."; "Returns how many shots there are then" */
    private static void restoreIsAChange() {
        for (int shots = 0; shots <= 20; shots++) {
            TimingLights x = Check.reel(shots, 10);
            x.save(1);
            for (int shot = shots; shot < 20; shot++) {
                x.shot(0, 7, 1, 1, 1);
            }
            int first = x.of(0, 0);
            Check.due("31: shots then", x.restore(1), shots);
            Check.due("31: as many", x.count(0), shots);
            Check.due("31: a change", x.count(13), 6);
            Check.due("31: undone", x.undo(), 5);
            Check.due("31: twenty again", x.count(0), 20);
            Check.due("31: the first one again", x.of(0, 0), first);
        }
    }

    /** "Restores what was saved last in a slot" */
    private static void restoreOfEverything() {
        for (int slot = 0; slot <= 1; slot++) {
            int in = slot;
            Twins.same("31: all is as it was saved, slot " + slot, () -> fresh(savedAndRestored(in)),
                    () -> fresh(Reels.rich()));
        }
    }

    private static TimingLights savedAndRestored(int slot) {
        TimingLights x = Reels.rich();
        x.save(slot);
        for (int setting = 0; setting < 4; setting++) {
            x.set(setting, 4);
        }
        x.shot(0, 99, 50, 50, 50);
        x.light(4, 0, 0);
        x.print();
        x.correctAll();
        x.lamp(0);
        x.card();
        x.takeOut(1);
        x.takeOut(2);
        x.restore(slot);
        return x;
    }

    private static void restoreLeavesPadAndHistory() {
        TimingLights x = Check.reel(1, 10);
        Check.type(x, "l0r=3");
        x.save(0);
        x.wipe();
        Check.type(x, "k;a");
        x.light(0, 0, 9);
        Check.due("31: restored", x.restore(0), 1);
        Check.due("31: the pad", x.count(12), 3);
        Check.due("31: its text", x.carryOut(), 2);
        Check.due("31: the history", x.count(13), 4);
        Check.due("31: undo carryOut", x.undo(), 3);
        Check.due("31: undo restore", x.undo(), 2);
        Check.due("31: the light again", x.inColour(0, 0, 2), 9);
        Check.due("31: undo light", x.undo(), 1);
        Check.due("31: the first light", x.inColour(0, 0, 2), 25);
        Check.due("31: undo shot", x.undo(), 0);
        Check.due("31: no more", x.undo(), NOT_POSSIBLE);
    }

    /** "which keeps it" */
    private static void theSlotKeepsIt() {
        for (int slot = 0; slot <= 1; slot++) {
            TimingLights x = Check.reel(2, 10);
            x.light(1, 1, 33);
            x.save(slot);
            for (int round = 0; round < 10; round++) {
                x.takeOut(0);
                x.light(0, 1, round);
                x.print();
                Check.due("31: restored", x.restore(slot), 2);
                Check.due("31: its light", x.inColour(1, 1, 2), 33);
                Check.due("31: no print", x.count(2), 0);
            }
            x.undo();
            Check.due("31: restored once more", x.restore(slot), 2);
        }
    }
}
