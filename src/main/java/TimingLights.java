/** Colour timing lights of a print, corrected shot by shot against a leader card. */
public final class TimingLights {
    public static final int NO_SUCH = -1, BAD_VALUE = -2, BAD_TEXT = -3, TOO_MANY = -4, NOT_POSSIBLE = -5, NONE = -6;
    public static final int STEP = 0, SLACK = 1, JUMP = 2, RATE = 3;

    private static final int COLOURS = 3;
    private static final int SETTINGS = 4;
    private static final int MOST_SHOTS = 20;
    private static final int MOST_FEET = 99;
    private static final int MOST_POINTS = 50;
    private static final int MIDDLE = 25;
    private static final int MOST_WISH = 10;
    private static final int MOST_TRIM = 20;
    private static final int MOST_HOURS = 999;
    private static final int OFF_OFFSET = 100;
    private static final int SLOTS = 2;

    private static final int[] LEAST_SETTING = {1, 0, 1, 0};
    private static final int[] MOST_SETTING = {5, 9, 40, 50};
    private static final int[] FIRST_SETTING = {1, 1, 8, 10};

    private final Reel reel;
    private final Reel before;
    private final Reel trial;
    private final Pad pad;
    private final History history;
    private final Shelf slots;
    private int slotsFilled;

    public TimingLights() {
        reel = new Reel();
        before = new Reel();
        trial = new Reel();
        pad = new Pad();
        history = new History();
        slots = new Shelf(SLOTS);
    }

    // ---- changes

    public int set(int setting, int value) {
        before.become(reel);
        return recorded(Changes.changeSetting(reel, setting, value));
    }

    public int shot(int place, int feet, int red, int green, int blue) {
        before.become(reel);
        return recorded(Changes.addShot(reel, place, feet, red, green, blue));
    }

    public int takeOut(int place) {
        before.become(reel);
        return recorded(Changes.dropShot(reel, place));
    }

    public int light(int place, int colour, int points) {
        before.become(reel);
        return recorded(Changes.changeLight(reel, place, colour, points));
    }

    public int wish(int place, int colour, int points) {
        before.become(reel);
        return recorded(Changes.changeWish(reel, place, colour, points));
    }

    public int move(int place, int to) {
        before.become(reel);
        return recorded(Changes.moveShot(reel, place, to));
    }

    public int split(int place, int feet) {
        before.become(reel);
        return recorded(Changes.splitShot(reel, place, feet));
    }

    public int join(int place) {
        before.become(reel);
        return recorded(Changes.joinShots(reel, place));
    }

    public int print() {
        before.become(reel);
        return recorded(Changes.makePrint(reel));
    }

    public int correct(int place) {
        before.become(reel);
        return recorded(Changes.correctShot(reel, place));
    }

    public int correctAll() {
        before.become(reel);
        return recorded(Changes.correctBadShots(reel));
    }

    public int card() {
        before.become(reel);
        return recorded(Changes.setByCard(reel));
    }

    public int trim(int colour, int points) {
        before.become(reel);
        return recorded(Changes.changeTrim(reel, colour, points));
    }

    public int lamp(int colour) {
        before.become(reel);
        return recorded(Changes.changeLamp(reel, colour));
    }

    // ---- what there is

    public int of(int place, int what) {
        if (!reel.hasShot(place)) {
            return NO_SUCH;
        }
        switch (what) {
            case 0:
                return reel.readShot(place, Reel.LENGTH);
            case 1:
                return Views.feetBefore(reel, place);
            case 2:
                return Views.isAnswered(reel, place) ? 1 : 0;
            case 3:
                return Views.isBad(reel, place) ? 1 : 0;
            case 4:
                return Views.jumps(reel, place) ? 1 : 0;
            default:
                return BAD_VALUE;
        }
    }

    public int inColour(int place, int colour, int what) {
        if (!reel.hasShot(place)) {
            return NO_SUCH;
        }
        if (!isColour(colour)) {
            return BAD_VALUE;
        }
        switch (what) {
            case 0:
                return reel.readShot(place, Reel.DENSITY + colour);
            case 1:
                return reel.readShot(place, Reel.WISH + colour) + MOST_WISH;
            case 2:
                return reel.readShot(place, Reel.LIGHT + colour);
            case 3:
                return Views.printsNow(reel, place, colour);
            case 4:
                return Views.offNow(reel, place, colour) + OFF_OFFSET;
            case 5:
                return Views.isAnswered(reel, place)
                        ? reel.readShot(place, Reel.ANSWER + colour) + OFF_OFFSET : NONE;
            default:
                return BAD_VALUE;
        }
    }

    public int ofLamp(int colour, int what) {
        if (!isColour(colour)) {
            return BAD_VALUE;
        }
        switch (what) {
            case 0:
                return reel.read(Reel.AGE + colour);
            case 1:
                return reel.lampLoss(colour);
            case 2:
                return reel.read(Reel.TRIM + colour) + MOST_TRIM;
            default:
                return BAD_VALUE;
        }
    }

    public int count(int what) {
        switch (what) {
            case 0:
                return reel.shots();
            case 1:
                return Views.feetBefore(reel, reel.shots());
            case 2:
                return reel.read(Reel.PRINTS);
            case 3:
                return Views.setOf(reel, Views.BAD);
            case 4:
                return Views.setOf(reel, Views.ANSWERED);
            case 5:
                return Views.setOf(reel, Views.JUMPS);
            case 6:
                return reel.read(Reel.POINTS);
            case 7:
                return Views.setOf(reel, Views.OFF);
            case 8:
            case 9:
            case 10:
            case 11:
                return reel.read(Reel.SETTING + what - 8);
            case 12:
                return pad.length();
            case 13:
                return history.size();
            default:
                return BAD_VALUE;
        }
    }

    // ---- what if; nothing changes

    public int needs(int place, int colour) {
        if (!reel.hasShot(place)) {
            return NO_SUCH;
        }
        if (!isColour(colour)) {
            return BAD_VALUE;
        }
        int light = WhatIf.lightNeeded(reel, place, colour, reel.lampLoss(colour));
        return isPoints(light) ? light : NONE;
    }

    public int ifLight(int place, int colour, int points) {
        if (!reel.hasShot(place)) {
            return NO_SUCH;
        }
        if (!isColour(colour) || !isPoints(points)) {
            return BAD_VALUE;
        }
        return Views.printsWith(reel, place, colour, points, reel.read(Reel.TRIM + colour));
    }

    public int lasts(int colour) {
        return isColour(colour) ? WhatIf.hoursLeft(reel, colour) : BAD_VALUE;
    }

    public int bestTrim(int colour, int what) {
        if (!isColour(colour) || !isWithin(what, 0, 1)) {
            return BAD_VALUE;
        }
        int best = WhatIf.leastOffTrim(reel, colour);
        return what == 0 ? best + MOST_TRIM : WhatIf.offTogether(reel, colour, best);
    }

    public int printsNeeded() {
        if (reel.shots() == 0) {
            return NOT_POSSIBLE;
        }
        trial.become(reel);
        return WhatIf.printsUntilGood(trial);
    }

    // ---- texts

    public int put(long characters) {
        return pad.append(characters);
    }

    public int wipe() {
        return pad.clear();
    }

    public int fault() {
        return pad.firstFault();
    }

    public int carryOut() {
        if (pad.firstFault() != NONE) {
            return BAD_TEXT;
        }
        before.become(reel);
        pad.startReading();
        int orders = 0;
        while (orders < Pad.MOST_CHARACTERS && pad.nextOrder() && carryOutOrder() >= 0) {
            orders++;
        }
        pad.clear();
        return recorded(orders);
    }

    // ---- undo, saving

    public int undo() {
        if (history.size() == 0) {
            return NOT_POSSIBLE;
        }
        history.takeBack(reel);
        return history.size();
    }

    public int save(int slot) {
        if (!isSlot(slot)) {
            return BAD_VALUE;
        }
        slots.keep(slot, reel);
        slotsFilled |= 1 << slot;
        return reel.shots();
    }

    public int restore(int slot) {
        if (!isSlot(slot)) {
            return BAD_VALUE;
        }
        if ((slotsFilled & 1 << slot) == 0) {
            return NOT_POSSIBLE;
        }
        before.become(reel);
        slots.give(slot, reel);
        return recorded(reel.shots());
    }

    // ---- inside

    /** Passes the answer of a change on; a change that succeeded goes into the history. */
    private int recorded(int answer) {
        if (answer >= 0) {
            history.record(before);
        }
        return answer;
    }

    private int carryOutOrder() {
        int first = pad.number(0);
        int second = pad.number(1);
        switch (pad.letter()) {
            case 's':
                return Changes.addShot(reel, reel.shots(), first, second, pad.number(2), pad.number(3));
            case 'l':
                return Changes.changeLight(reel, first, pad.colour(), second);
            case 'w':
                return Changes.changeWish(reel, first, pad.colour(), pad.isMinus() ? -second : second);
            case 'm':
                return Changes.moveShot(reel, first, second);
            case 'p':
                return Changes.makePrint(reel);
            case 'c':
                return Changes.correctShot(reel, first);
            case 'a':
                return Changes.correctBadShots(reel);
            case 'k':
                return Changes.setByCard(reel);
            default:
                return BAD_TEXT;
        }
    }

    private static boolean isWithin(int value, int least, int most) {
        return value >= least && value <= most;
    }

    private static boolean isColour(int colour) {
        return isWithin(colour, 0, COLOURS - 1);
    }

    private static boolean isPoints(int points) {
        return isWithin(points, 0, MOST_POINTS);
    }

    private static boolean isSlot(int slot) {
        return isWithin(slot, 0, SLOTS - 1);
    }

    private static int bounded(int points) {
        return points < 0 ? 0 : points > MOST_POINTS ? MOST_POINTS : points;
    }

    /** The reel and the printer. One row of numbers holds them all, so that undo and slots copy one row. */
    private static final class Reel {
        static final int SETTING = 0;
        static final int AGE = SETTING + SETTINGS;
        static final int TRIM = AGE + COLOURS;
        static final int PRINTS = TRIM + COLOURS;
        static final int POINTS = PRINTS + 1;
        static final int SHOTS = POINTS + 1;
        static final int FIRST_SHOT = SHOTS + 1;

        static final int LENGTH = 0;
        static final int HAS_ANSWER = LENGTH + 1;
        static final int DENSITY = HAS_ANSWER + 1;
        static final int WISH = DENSITY + COLOURS;
        static final int LIGHT = WISH + COLOURS;
        static final int ANSWER = LIGHT + COLOURS;
        static final int SHOT_SIZE = ANSWER + COLOURS;

        static final int SIZE = FIRST_SHOT + MOST_SHOTS * SHOT_SIZE;

        private final int[] cells;

        Reel() {
            cells = new int[SIZE];
            System.arraycopy(FIRST_SETTING, 0, cells, SETTING, SETTINGS);
        }

        int read(int cell) {
            return cell >= 0 && cell < cells.length ? cells[cell] : 0;
        }

        void write(int cell, int value) {
            if (cell >= 0 && cell < cells.length) {
                cells[cell] = value;
            }
        }

        int readShot(int place, int field) {
            int cell = FIRST_SHOT + place * SHOT_SIZE + field;
            return cell >= 0 && cell < cells.length ? cells[cell] : 0;
        }

        void writeShot(int place, int field, int value) {
            int cell = FIRST_SHOT + place * SHOT_SIZE + field;
            if (cell >= 0 && cell < cells.length) {
                cells[cell] = value;
            }
        }

        int lampLoss(int colour) {
            return colour >= 0 && colour < COLOURS ? cells[AGE + colour] * cells[SETTING + RATE] / 100 : 0;
        }

        int shots() {
            return read(SHOTS);
        }

        boolean hasShot(int place) {
            return place >= 0 && place < shots();
        }

        /** Makes room at a place; the shot that was there stands at it and behind it then. */
        void openPlace(int place) {
            for (int at = Math.min(shots(), MOST_SHOTS - 1); at > place; at--) {
                copyShot(at - 1, at);
            }
            write(SHOTS, shots() + 1);
        }

        void closePlace(int place) {
            for (int at = place; at < shots() - 1; at++) {
                copyShot(at + 1, at);
            }
            write(SHOTS, shots() - 1);
        }

        void copyShot(int from, int to) {
            for (int field = 0; field < SHOT_SIZE; field++) {
                writeShot(to, field, readShot(from, field));
            }
        }

        void swapShots(int one, int other) {
            for (int field = 0; field < SHOT_SIZE; field++) {
                int kept = readShot(one, field);
                writeShot(one, field, readShot(other, field));
                writeShot(other, field, kept);
            }
        }

        void become(Reel other) {
            System.arraycopy(other.cells, 0, cells, 0, SIZE);
        }

        void writeTo(int[] row, int start) {
            if (start >= 0 && start <= row.length - SIZE) {
                System.arraycopy(cells, 0, row, start, SIZE);
            }
        }

        void readFrom(int[] row, int start) {
            if (start >= 0 && start <= row.length - SIZE) {
                System.arraycopy(row, start, cells, 0, SIZE);
            }
        }
    }

    /** What can be told of a reel as it is. */
    private static final class Views {
        static final int ANSWERED = 0, BAD = 1, JUMPS = 2, OFF = 3;

        static int printsWith(Reel reel, int place, int colour, int light, int trim) {
            int density = reel.readShot(place, Reel.DENSITY + colour);
            return bounded(MIDDLE + light + trim - reel.lampLoss(colour) - density);
        }

        static int printsNow(Reel reel, int place, int colour) {
            int light = reel.readShot(place, Reel.LIGHT + colour);
            return printsWith(reel, place, colour, light, reel.read(Reel.TRIM + colour));
        }

        static int offWith(Reel reel, int place, int colour, int trim) {
            int light = reel.readShot(place, Reel.LIGHT + colour);
            int wish = reel.readShot(place, Reel.WISH + colour);
            return printsWith(reel, place, colour, light, trim) - MIDDLE - wish;
        }

        static int offNow(Reel reel, int place, int colour) {
            return offWith(reel, place, colour, reel.read(Reel.TRIM + colour));
        }

        static int feetBefore(Reel reel, int place) {
            int feet = 0;
            for (int at = 0; at < place && at < MOST_SHOTS; at++) {
                feet += reel.readShot(at, Reel.LENGTH);
            }
            return feet;
        }

        static boolean isAnswered(Reel reel, int place) {
            return reel.readShot(place, Reel.HAS_ANSWER) != 0;
        }

        static boolean isBad(Reel reel, int place) {
            int most = 0;
            for (int colour = 0; colour < COLOURS; colour++) {
                most = Math.max(most, Math.abs(reel.readShot(place, Reel.ANSWER + colour)));
            }
            return isAnswered(reel, place) && most > reel.read(Reel.SETTING + SLACK);
        }

        static boolean isOff(Reel reel, int place) {
            int most = 0;
            for (int colour = 0; colour < COLOURS; colour++) {
                int trim = reel.read(Reel.TRIM + colour);
                most = Math.max(most, Math.abs(offWith(reel, place, colour, trim)));
            }
            return most > reel.read(Reel.SETTING + SLACK);
        }

        static boolean jumps(Reel reel, int place) {
            if (!reel.hasShot(place + 1)) {
                return false;
            }
            int most = 0;
            for (int colour = 0; colour < COLOURS; colour++) {
                int difference = printsNow(reel, place + 1, colour) - printsNow(reel, place, colour);
                most = Math.max(most, Math.abs(difference));
            }
            return most > reel.read(Reel.SETTING + JUMP);
        }

        static boolean holds(Reel reel, int place, int question) {
            switch (question) {
                case ANSWERED:
                    return isAnswered(reel, place);
                case BAD:
                    return isBad(reel, place);
                case JUMPS:
                    return jumps(reel, place);
                case OFF:
                    return isOff(reel, place);
                default:
                    return false;
            }
        }

        static int setOf(Reel reel, int question) {
            int set = 0;
            for (int place = 0; place < reel.shots() && place < MOST_SHOTS; place++) {
                if (holds(reel, place, question)) {
                    set |= 1 << place;
                }
            }
            return set;
        }
    }

    /** The changes. Each answers an error and leaves the reel as it is, or changes it. */
    private static final class Changes {
        static int changeSetting(Reel reel, int setting, int value) {
            if (!isWithin(setting, 0, SETTINGS - 1)
                    || !isWithin(value, LEAST_SETTING[setting], MOST_SETTING[setting])) {
                return BAD_VALUE;
            }
            return exchange(reel, Reel.SETTING + setting, value);
        }

        static int addShot(Reel reel, int place, int feet, int red, int green, int blue) {
            if (!isWithin(place, 0, reel.shots())) {
                return NO_SUCH;
            }
            if (!isWithin(feet, 1, MOST_FEET) || !isPoints(red) || !isPoints(green) || !isPoints(blue)) {
                return BAD_VALUE;
            }
            if (reel.shots() >= MOST_SHOTS) {
                return TOO_MANY;
            }
            reel.openPlace(place);
            reel.writeShot(place, Reel.LENGTH, feet);
            reel.writeShot(place, Reel.HAS_ANSWER, 0);
            reel.writeShot(place, Reel.DENSITY, red);
            reel.writeShot(place, Reel.DENSITY + 1, green);
            reel.writeShot(place, Reel.DENSITY + 2, blue);
            for (int colour = 0; colour < COLOURS; colour++) {
                reel.writeShot(place, Reel.WISH + colour, 0);
                reel.writeShot(place, Reel.LIGHT + colour, MIDDLE);
            }
            return reel.shots();
        }

        static int dropShot(Reel reel, int place) {
            if (!reel.hasShot(place)) {
                return NO_SUCH;
            }
            reel.closePlace(place);
            return reel.shots();
        }

        static int changeLight(Reel reel, int place, int colour, int points) {
            if (!reel.hasShot(place)) {
                return NO_SUCH;
            }
            if (!isColour(colour) || !isPoints(points)) {
                return BAD_VALUE;
            }
            int previous = reel.readShot(place, Reel.LIGHT + colour);
            reel.writeShot(place, Reel.LIGHT + colour, points);
            return previous;
        }

        static int changeWish(Reel reel, int place, int colour, int points) {
            if (!reel.hasShot(place)) {
                return NO_SUCH;
            }
            if (!isColour(colour) || !isWithin(points, -MOST_WISH, MOST_WISH)) {
                return BAD_VALUE;
            }
            int previous = reel.readShot(place, Reel.WISH + colour);
            reel.writeShot(place, Reel.WISH + colour, points);
            return previous + MOST_WISH;
        }

        static int moveShot(Reel reel, int place, int to) {
            if (!reel.hasShot(place) || !reel.hasShot(to)) {
                return NO_SUCH;
            }
            for (int at = place; at < to; at++) {
                reel.swapShots(at, at + 1);
            }
            for (int at = place; at > to; at--) {
                reel.swapShots(at, at - 1);
            }
            return Math.abs(to - place);
        }

        static int splitShot(Reel reel, int place, int feet) {
            if (!reel.hasShot(place)) {
                return NO_SUCH;
            }
            if (!isWithin(feet, 1, MOST_FEET - 1)) {
                return BAD_VALUE;
            }
            int rest = reel.readShot(place, Reel.LENGTH) - feet;
            if (rest <= 0) {
                return NOT_POSSIBLE;
            }
            if (reel.shots() >= MOST_SHOTS) {
                return TOO_MANY;
            }
            reel.openPlace(place);
            reel.writeShot(place, Reel.LENGTH, feet);
            reel.writeShot(place, Reel.HAS_ANSWER, 0);
            reel.writeShot(place + 1, Reel.LENGTH, rest);
            reel.writeShot(place + 1, Reel.HAS_ANSWER, 0);
            return reel.shots();
        }

        static int joinShots(Reel reel, int place) {
            if (!reel.hasShot(place) || !reel.hasShot(place + 1)) {
                return NO_SUCH;
            }
            int feet = reel.readShot(place, Reel.LENGTH) + reel.readShot(place + 1, Reel.LENGTH);
            if (feet > MOST_FEET || !isSameStock(reel, place, place + 1)) {
                return NOT_POSSIBLE;
            }
            reel.closePlace(place + 1);
            reel.writeShot(place, Reel.LENGTH, feet);
            reel.writeShot(place, Reel.HAS_ANSWER, 0);
            return feet;
        }

        private static boolean isSameStock(Reel reel, int one, int other) {
            for (int field = Reel.DENSITY; field < Reel.DENSITY + COLOURS; field++) {
                if (reel.readShot(one, field) != reel.readShot(other, field)) {
                    return false;
                }
            }
            return true;
        }

        static int makePrint(Reel reel) {
            int hours = hoursOfPrint(reel);
            for (int colour = 0; colour < COLOURS; colour++) {
                if (reel.read(Reel.AGE + colour) + hours > MOST_HOURS) {
                    return NOT_POSSIBLE;
                }
            }
            return reel.shots() == 0 ? NOT_POSSIBLE : runPrinter(reel);
        }

        /** A print whatever the age of the lamps. */
        static int runPrinter(Reel reel) {
            int bad = 0;
            for (int place = 0; place < reel.shots() && place < MOST_SHOTS; place++) {
                for (int colour = 0; colour < COLOURS; colour++) {
                    int off = Views.offWith(reel, place, colour, reel.read(Reel.TRIM + colour));
                    reel.writeShot(place, Reel.ANSWER + colour, off);
                }
                reel.writeShot(place, Reel.HAS_ANSWER, 1);
                bad += Views.isBad(reel, place) ? 1 : 0;
            }
            int hours = hoursOfPrint(reel);
            for (int colour = 0; colour < COLOURS; colour++) {
                reel.write(Reel.AGE + colour, reel.read(Reel.AGE + colour) + hours);
            }
            reel.write(Reel.PRINTS, reel.read(Reel.PRINTS) + 1);
            return bad;
        }

        private static int hoursOfPrint(Reel reel) {
            return (Views.feetBefore(reel, reel.shots()) + 99) / 100;
        }

        static int correctShot(Reel reel, int place) {
            if (!reel.hasShot(place)) {
                return NO_SUCH;
            }
            if (!Views.isAnswered(reel, place)) {
                return NOT_POSSIBLE;
            }
            int points = 0;
            for (int colour = 0; colour < COLOURS; colour++) {
                points += correctLight(reel, place, colour);
            }
            reel.writeShot(place, Reel.HAS_ANSWER, 0);
            reel.write(Reel.POINTS, reel.read(Reel.POINTS) + points);
            return points;
        }

        private static int correctLight(Reel reel, int place, int colour) {
            int answer = reel.readShot(place, Reel.ANSWER + colour);
            int step = Math.max(1, reel.read(Reel.SETTING + STEP));
            // Java cuts a quotient towards 0, so whole steps never exceed the answer on either side.
            int wholeSteps = answer / step * step;
            int light = reel.readShot(place, Reel.LIGHT + colour);
            int corrected = bounded(light - wholeSteps);
            reel.writeShot(place, Reel.LIGHT + colour, corrected);
            return Math.abs(corrected - light);
        }

        static int correctBadShots(Reel reel) {
            int corrected = 0;
            for (int place = 0; place < reel.shots() && place < MOST_SHOTS; place++) {
                if (Views.isBad(reel, place)) {
                    correctShot(reel, place);
                    corrected++;
                }
            }
            return corrected;
        }

        static int setByCard(Reel reel) {
            int together = 0;
            for (int colour = 0; colour < COLOURS; colour++) {
                int trim = Math.min(MOST_TRIM, reel.lampLoss(colour));
                reel.write(Reel.TRIM + colour, trim);
                together += trim;
            }
            return together;
        }

        static int changeTrim(Reel reel, int colour, int points) {
            if (!isColour(colour) || !isWithin(points, -MOST_TRIM, MOST_TRIM)) {
                return BAD_VALUE;
            }
            return exchange(reel, Reel.TRIM + colour, points) + MOST_TRIM;
        }

        static int changeLamp(Reel reel, int colour) {
            return isColour(colour) ? exchange(reel, Reel.AGE + colour, 0) : BAD_VALUE;
        }

        private static int exchange(Reel reel, int cell, int value) {
            int previous = reel.read(cell);
            reel.write(cell, value);
            return previous;
        }
    }

    /** What would be. Only printsUntilGood changes its reel, which is a trial then. */
    private static final class WhatIf {
        private static final int MOST_HOURS_MORE = 500;
        private static final int MOST_TRIALS = 20;

        static int lightNeeded(Reel reel, int place, int colour, int loss) {
            int density = reel.readShot(place, Reel.DENSITY + colour);
            int wish = reel.readShot(place, Reel.WISH + colour);
            return density + wish + loss - reel.read(Reel.TRIM + colour);
        }

        static int hoursLeft(Reel reel, int colour) {
            int age = reel.read(Reel.AGE + colour);
            int rate = reel.read(Reel.SETTING + RATE);
            for (int hours = 0; hours <= MOST_HOURS_MORE; hours++) {
                if (isSomeLightOut(reel, colour, (age + hours) * rate / 100)) {
                    return hours;
                }
            }
            return NONE;
        }

        private static boolean isSomeLightOut(Reel reel, int colour, int loss) {
            for (int place = 0; place < reel.shots() && place < MOST_SHOTS; place++) {
                if (!isPoints(lightNeeded(reel, place, colour, loss))) {
                    return true;
                }
            }
            return false;
        }

        static int leastOffTrim(Reel reel, int colour) {
            int best = 0;
            int least = offTogether(reel, colour, 0);
            // From 0 outwards, above 0 first: so of several the due one is met first.
            for (int turn = 2; turn <= 2 * MOST_TRIM + 1; turn++) {
                int trim = turn % 2 == 0 ? turn / 2 : -(turn / 2);
                int off = offTogether(reel, colour, trim);
                if (off < least) {
                    least = off;
                    best = trim;
                }
            }
            return best;
        }

        static int offTogether(Reel reel, int colour, int trim) {
            int together = 0;
            for (int place = 0; place < reel.shots() && place < MOST_SHOTS; place++) {
                together += Math.abs(Views.offWith(reel, place, colour, trim));
            }
            return together;
        }

        static int printsUntilGood(Reel trial) {
            for (int prints = 1; prints <= MOST_TRIALS; prints++) {
                if (Changes.runPrinter(trial) == 0) {
                    return prints;
                }
                Changes.correctBadShots(trial);
            }
            return NONE;
        }
    }

    /** Places for reels, made once and used again. */
    private static final class Shelf {
        private final int[] rows;

        Shelf(int places) {
            rows = new int[Math.max(0, places) * Reel.SIZE];
        }

        void keep(int place, Reel reel) {
            reel.writeTo(rows, place * Reel.SIZE);
        }

        void give(int place, Reel reel) {
            reel.readFrom(rows, place * Reel.SIZE);
        }
    }

    /** The states that undo can bring back; they go round in the shelf. */
    private static final class History {
        private static final int MOST_STATES = 6;

        private final Shelf shelf;
        private int oldest;
        private int size;

        History() {
            shelf = new Shelf(MOST_STATES);
        }

        int size() {
            return size;
        }

        void record(Reel reel) {
            shelf.keep((oldest + size) % MOST_STATES, reel);
            if (size < MOST_STATES) {
                size++;
            } else {
                oldest = (oldest + 1) % MOST_STATES;
            }
        }

        void takeBack(Reel reel) {
            if (size > 0) {
                size--;
                shelf.give((oldest + size) % MOST_STATES, reel);
            }
        }
    }

    /** The text, and how its orders are read from left to right. */
    private static final class Pad {
        static final int MOST_CHARACTERS = 80;
        private static final int MOST_AT_ONCE = 8;
        private static final int MOST_NUMBERS = 4;

        private final char[] characters;
        private final int[] numbers;
        private int length;
        private int at;
        private int numbersRead;
        private int letter;
        private int colour;
        private boolean minus;

        Pad() {
            characters = new char[MOST_CHARACTERS];
            numbers = new int[MOST_NUMBERS];
        }

        int length() {
            return length;
        }

        int letter() {
            return letter;
        }

        int colour() {
            return colour;
        }

        boolean isMinus() {
            return minus;
        }

        int number(int index) {
            return index >= 0 && index < numbers.length ? numbers[index] : 0;
        }

        int clear() {
            int previous = length;
            length = 0;
            return previous;
        }

        int append(long packed) {
            int more = charactersIn(packed);
            if (more == 0) {
                return BAD_VALUE;
            }
            if (length + more > MOST_CHARACTERS) {
                return TOO_MANY;
            }
            for (int back = more - 1; back >= 0; back--) {
                write((char) (packed >>> 8 * back & 255));
            }
            return length;
        }

        /** How many characters a number holds; 0 if it is not a row of good ones. */
        private static int charactersIn(long packed) {
            long rest = packed;
            int found = 0;
            while (found < MOST_AT_ONCE && isWithin((int) (rest & 255), 33, 126)) {
                rest >>>= 8;
                found++;
            }
            return rest == 0 ? found : 0;
        }

        private void write(char character) {
            if (length >= 0 && length < characters.length) {
                characters[length] = character;
                length++;
            }
        }

        int firstFault() {
            startReading();
            for (int orders = 0; orders < MOST_CHARACTERS; orders++) {
                if (!nextOrder()) {
                    return at;
                }
                if (at >= length) {
                    return NONE;
                }
            }
            return at;
        }

        void startReading() {
            at = 0;
        }

        /** Reads one order more; if there is no whole one, the reading stands at the fault then. */
        boolean nextOrder() {
            if (at > 0 && !readSign(';')) {
                return false;
            }
            numbersRead = 0;
            letter = here();
            String form = formOf(letter);
            for (int part = 0; part < form.length(); part++) {
                if (!readPart(form.charAt(part))) {
                    return false;
                }
            }
            return !form.isEmpty();
        }

        /** What an order consists of: N a number, C a colour, S a + or -, else the sign itself. */
        private static String formOf(int letter) {
            switch (letter) {
                case 's':
                    return "sN:N,N,N";
                case 'l':
                    return "lNC=N";
                case 'w':
                    return "wNCSN";
                case 'm':
                    return "mN>N";
                case 'p':
                    return "p";
                case 'c':
                    return "cN";
                case 'a':
                    return "a";
                case 'k':
                    return "k";
                default:
                    return "";
            }
        }

        private boolean readPart(char part) {
            switch (part) {
                case 'N':
                    return readNumber();
                case 'C':
                    return readColour();
                case 'S':
                    minus = here() == '-';
                    return readSign('-') || readSign('+');
                default:
                    return readSign(part);
            }
        }

        private boolean readNumber() {
            if (!isDigitHere()) {
                return false;
            }
            int value = here() - '0';
            at++;
            if (value > 0 && isDigitHere()) {
                value = value * 10 + here() - '0';
                at++;
            }
            if (numbersRead >= 0 && numbersRead < numbers.length) {
                numbers[numbersRead] = value;
                numbersRead++;
            }
            return true;
        }

        private boolean readColour() {
            int character = here();
            colour = character == 'r' ? 0 : character == 'g' ? 1 : 2;
            return readSign('r') || readSign('g') || readSign('b');
        }

        private boolean readSign(char sign) {
            if (here() != sign) {
                return false;
            }
            at++;
            return true;
        }

        private boolean isDigitHere() {
            return isWithin(here(), '0', '9');
        }

        /** The character that is read next; 0, which no text holds, behind the end. */
        private int here() {
            return at >= 0 && at < length && at < characters.length ? characters[at] : 0;
        }
    }
}
