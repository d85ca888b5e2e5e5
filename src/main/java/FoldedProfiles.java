/** A stall at a fair where profiles are cut out of folded paper; ../shared/DOC.md says what each call does. */
public final class FoldedProfiles {
    public static final int UNKNOWN = -1;
    public static final int BAD_VALUE = -2;
    public static final int FULL = -3;
    public static final int NOT_POSSIBLE = -4;
    public static final int NONE = -5;
    public static final int NO_CUT = -10;

    private static final int FAULT_BASE = -100;

    private static final int STEPS = 8;
    private static final int MOST_PROFILES = 10;
    private static final int LEAST_WIDTH = 1;
    private static final int MOST_WIDTH = 9;

    private static final int MOST_STRIPS = 6;
    private static final int MOST_LENGTH = 200;
    private static final int MOST_THICKNESS = 3;
    private static final int LENGTH_FOR_A_COIN = 20;
    private static final int LEAST_TRADED = 10;
    private static final int TRADE_LOSS = 2;

    private static final int MOST_FOLDS = 3;
    private static final int MOST_LAYERS = 8;
    private static final int TOO_THICK = 1;
    private static final int TOO_SHORT = 2;

    private static final int MARGIN = 0;
    private static final int CREEP = 1;
    private static final int BLADE = 2;
    private static final int SETTINGS = 3;
    private static final int[] LEAST_SETTING = {0, 0, 1};
    private static final int[] MOST_SETTING = {9, 3, 24};
    private static final int[] FIRST_SETTING = {1, 0, 8};

    private static final int MOST_SITTERS = 12;
    private static final int TO_THE_LEFT = 0;
    private static final int TO_THE_RIGHT = 1;
    private static final int COUPLE = 2;
    private static final int MOST_PATIENCE = 99;
    private static final int USUAL_PATIENCE = 20;
    private static final int PAY_FOR_ONE = 2;
    private static final int PAY_FOR_A_COUPLE = 5;
    private static final int FIRST_COINS = 10;

    private static final int MOST_TEXT = 80;
    // 8 entries of 9 signs with a ";" between two fill 79 of the 80 signs
    private static final int MOST_ENTRIES = 8;
    private static final int MOST_STATES = 4;

    private final Stall stall = new Stall();
    // what may yet be refused, or is only asked, is tried here
    private final Stall trial = new Stall();
    private final Stall snapshot = new Stall();
    private boolean snapshotTaken = false;
    private final History history = new History();
    private final SitterText text = new SitterText();

    public FoldedProfiles() {
    }

    // ---- strips

    public int buy(int length, int thickness) {
        if (!isIn(length, 1, MOST_LENGTH) || !isIn(thickness, 1, MOST_THICKNESS)) {
            return BAD_VALUE;
        }
        if (stall.strips.isFull()) {
            return FULL;
        }
        int price = thickness + length / LENGTH_FOR_A_COIN;
        if (price > stall.coins) {
            return NOT_POSSIBLE;
        }
        history.push(stall);
        stall.coins -= price;
        return stall.strips.add(length, thickness);
    }

    public int trade(int strip, int thickness) {
        Strips strips = stall.strips;
        if (!strips.has(strip)) {
            return UNKNOWN;
        }
        if (!isIn(thickness, 1, MOST_THICKNESS)) {
            return BAD_VALUE;
        }
        if (strips.lengths[strip] < LEAST_TRADED || strips.thicknesses[strip] == thickness) {
            return NOT_POSSIBLE;
        }
        history.push(stall);
        strips.lengths[strip] -= TRADE_LOSS;
        strips.thicknesses[strip] = thickness;
        return strips.lengths[strip];
    }

    public int part(int strip, int length) {
        Strips strips = stall.strips;
        if (!strips.has(strip)) {
            return UNKNOWN;
        }
        if (!isIn(length, 1, MOST_LENGTH - 1)) {
            return BAD_VALUE;
        }
        if (strips.isFull()) {
            return FULL;
        }
        int rest = strips.lengths[strip] - length;
        if (rest <= 0) {
            return NOT_POSSIBLE;
        }
        history.push(stall);
        strips.lengths[strip] = length;
        return strips.add(rest, strips.thicknesses[strip]);
    }

    // ---- profiles, sitters

    public int draw(int profile, int step, int width) {
        Profiles profiles = stall.profiles;
        if (!profiles.has(profile) || !isStep(step)) {
            return UNKNOWN;
        }
        if (!isIn(width, LEAST_WIDTH, MOST_WIDTH)) {
            return BAD_VALUE;
        }
        if (profiles.isFull()) {
            return FULL;
        }
        history.push(stall);
        return profiles.addLike(profile, step, width);
    }

    public int come(int profile, int want, int patience) {
        if (!stall.profiles.has(profile)) {
            return UNKNOWN;
        }
        if (!isIn(want, TO_THE_LEFT, COUPLE) || !isIn(patience, 1, MOST_PATIENCE)) {
            return BAD_VALUE;
        }
        if (stall.line.isFull()) {
            return FULL;
        }
        history.push(stall);
        return stall.line.add(profile, want, patience);
    }

    public int comeAll() {
        if (!text.read()) {
            return FAULT_BASE - text.at;
        }
        trial.copyFrom(stall);
        for (int entry = 0; entry < text.entries; entry++) {
            int profile = trial.profiles.numberFor(text.widths, entry * STEPS);
            if (profile == FULL || trial.line.isFull()) {
                return FULL;
            }
            trial.line.add(profile, text.wants[entry], text.patiences[entry]);
        }
        takeOverTrial();
        return stall.line.size;
    }

    public int serve(int sitter) {
        if (!stall.line.has(sitter)) {
            return UNKNOWN;
        }
        int profile = stall.findFor(sitter);
        if (profile == NONE) {
            return NOT_POSSIBLE;
        }
        history.push(stall);
        stall.handOver(sitter, profile);
        return stall.coins;
    }

    public int serveAll() {
        trial.copyFrom(stall);
        int servedNow = trial.handOverAll();
        if (servedNow == 0) {
            return NONE;
        }
        takeOverTrial();
        return servedNow;
    }

    // ---- cutting, turning, settings

    public int cut(int profile, int strip, int folds) {
        if (!stall.profiles.has(profile) || !stall.strips.has(strip)) {
            return UNKNOWN;
        }
        if (!areFolds(folds)) {
            return BAD_VALUE;
        }
        int reason = stall.reasonAgainst(profile, strip, folds);
        if (reason != 0) {
            return NO_CUT - reason;
        }
        history.push(stall);
        stall.makeCut(profile, strip, folds);
        return layersOf(folds);
    }

    public int turn(int profile, boolean right) {
        Profiles profiles = stall.profiles;
        if (!profiles.has(profile)) {
            return UNKNOWN;
        }
        int others = right ? profiles.lefts[profile] : profiles.rights[profile];
        if (others == 0) {
            return NOT_POSSIBLE;
        }
        history.push(stall);
        int toTheRight = right ? 1 : -1;
        profiles.lefts[profile] -= toTheRight;
        profiles.rights[profile] += toTheRight;
        stall.letTimePass(1);
        return right ? profiles.rights[profile] : profiles.lefts[profile];
    }

    public int set(int which, int value) {
        if (!isIn(which, 0, SETTINGS - 1)) {
            return UNKNOWN;
        }
        if (!isIn(value, LEAST_SETTING[which], MOST_SETTING[which])) {
            return BAD_VALUE;
        }
        int previous = stall.settings[which];
        if (previous == value) {
            return NONE;
        }
        history.push(stall);
        stall.settings[which] = value;
        return previous;
    }

    // ---- texts

    public int type(char character) {
        if (text.length >= MOST_TEXT) {
            return FULL;
        }
        text.signs[text.length] = character;
        text.length++;
        return text.length;
    }

    public int clearText() {
        int had = text.length;
        text.length = 0;
        return had;
    }

    // ---- history

    public int undo() {
        if (history.size == 0) {
            return NONE;
        }
        history.popInto(stall);
        return history.size;
    }

    public int keep() {
        snapshot.copyFrom(stall);
        snapshotTaken = true;
        return stall.coins;
    }

    public int restore() {
        if (!snapshotTaken) {
            return NONE;
        }
        history.push(stall);
        stall.copyFrom(snapshot);
        return stall.coins;
    }

    // ---- what is told

    public int width(int profile, int step) {
        if (!stall.profiles.has(profile) || !isStep(step)) {
            return UNKNOWN;
        }
        return stall.profiles.widthAt(profile, step);
    }

    public int profile(int profile, int what) {
        Profiles profiles = stall.profiles;
        if (!profiles.has(profile)) {
            return UNKNOWN;
        }
        switch (what) {
            case 0: return profiles.greatestWidth(profile);
            case 1: return profiles.sumOfWidths(profile);
            case 2: return profiles.lefts[profile];
            case 3: return profiles.rights[profile];
            case 4: return stall.line.countOf(profile);
            case 5: return profiles.cuts[profile];
            case 6: return profiles.lowestAlike(profile);
            default: return BAD_VALUE;
        }
    }

    public int layerWidth(int profile, int step, int layer) {
        if (!stall.profiles.has(profile) || !isStep(step)) {
            return UNKNOWN;
        }
        if (!isIn(layer, 0, MOST_LAYERS - 1)) {
            return BAD_VALUE;
        }
        return stall.profiles.widthAt(profile, step) + stall.settings[CREEP] * (layer / 2);
    }

    public int strip(int strip, int what) {
        if (!stall.strips.has(strip)) {
            return UNKNOWN;
        }
        switch (what) {
            case 0: return stall.strips.lengths[strip];
            case 1: return stall.strips.thicknesses[strip];
            case 2: return stall.mostFolds(strip);
            default: return BAD_VALUE;
        }
    }

    public int sitter(int sitter, int what) {
        Line line = stall.line;
        if (!line.has(sitter)) {
            return UNKNOWN;
        }
        switch (what) {
            case 0: return line.profiles[sitter];
            case 1: return line.wants[sitter];
            case 2: return line.patiences[sitter];
            case 3: return stall.findFor(sitter) == NONE ? 0 : 1;
            default: return BAD_VALUE;
        }
    }

    public int ifCut(int profile, int strip, int folds, int what) {
        if (!stall.profiles.has(profile) || !stall.strips.has(strip)) {
            return UNKNOWN;
        }
        if (!areFolds(folds) || !isIn(what, 0, 4)) {
            return BAD_VALUE;
        }
        int reason = stall.reasonAgainst(profile, strip, folds);
        if (reason != 0) {
            return NO_CUT - reason;
        }
        switch (what) {
            case 0: return layersOf(folds);
            case 1: return stall.lengthTaken(profile, folds);
            case 2: return stall.strips.lengths[strip] - stall.lengthTaken(profile, folds);
            default: break;
        }
        trial.copyFrom(stall);
        trial.makeCut(profile, strip, folds);
        return what == 3 ? trial.gone - stall.gone : trial.handOverAll();
    }

    public int bestStrip(int profile, int folds) {
        if (!stall.profiles.has(profile)) {
            return UNKNOWN;
        }
        if (!areFolds(folds)) {
            return BAD_VALUE;
        }
        // as much is taken of each strip, so the shortest one has the least left
        int best = NONE;
        int shortest = MOST_LENGTH + 1;
        for (int strip = 0; strip < stall.strips.size; strip++) {
            int length = stall.strips.lengths[strip];
            if (length < shortest && stall.reasonAgainst(profile, strip, folds) == 0) {
                best = strip;
                shortest = length;
            }
        }
        return best;
    }

    public int fewestFolds(int profile, int strip) {
        if (!stall.profiles.has(profile) || !stall.strips.has(strip)) {
            return UNKNOWN;
        }
        int lefts = stall.profiles.lefts[profile];
        int rights = stall.profiles.rights[profile];
        int leftsWanted = stall.line.countOfSide(profile, TO_THE_LEFT);
        int rightsWanted = stall.line.countOfSide(profile, TO_THE_RIGHT);
        for (int folds = 0; folds <= MOST_FOLDS; folds++) {
            boolean enough = lefts + leftLayersOf(folds) >= leftsWanted
                && rights + rightLayersOf(folds) >= rightsWanted;
            if (enough && stall.reasonAgainst(profile, strip, folds) == 0) {
                return folds;
            }
        }
        return NONE;
    }

    public int count(int what) {
        switch (what) {
            case 0: return stall.clock;
            case 1: return stall.profiles.size;
            case 2: return stall.strips.size;
            case 3: return stall.line.size;
            case 4: return stall.strips.sumOfLengths();
            case 5: return stall.profiles.inStock();
            case 6: return stall.profiles.cutSoFar();
            case 7: return stall.served;
            case 8: return stall.gone;
            case 9: return stall.coins;
            case 10: return stall.settings[MARGIN];
            case 11: return stall.settings[CREEP];
            case 12: return stall.settings[BLADE];
            case 13: return stall.lengthCut;
            case 14: return history.size;
            case 15: return text.length;
            default: return BAD_VALUE;
        }
    }

    // ---- helpers

    private void takeOverTrial() {
        history.push(stall);
        stall.copyFrom(trial);
    }

    private static boolean isIn(int value, int least, int most) {
        return value >= least && value <= most;
    }

    private static boolean isStep(int step) {
        return isIn(step, 0, STEPS - 1);
    }

    private static boolean areFolds(int folds) {
        return isIn(folds, 0, MOST_FOLDS);
    }

    private static int layersOf(int folds) {
        return 1 << folds;
    }

    private static int leftLayersOf(int folds) {
        return (layersOf(folds) + 1) / 2;
    }

    private static int rightLayersOf(int folds) {
        return layersOf(folds) / 2;
    }

    /** The profiles that are kept, with what is in stock of each. */
    private static final class Profiles {
        // one row for all widths: a state is copied often
        final int[] widths = new int[MOST_PROFILES * STEPS];
        final int[] lefts = new int[MOST_PROFILES];
        final int[] rights = new int[MOST_PROFILES];
        final int[] cuts = new int[MOST_PROFILES];
        int size = 0;

        void copyFrom(Profiles other) {
            System.arraycopy(other.widths, 0, widths, 0, widths.length);
            System.arraycopy(other.lefts, 0, lefts, 0, lefts.length);
            System.arraycopy(other.rights, 0, rights, 0, rights.length);
            System.arraycopy(other.cuts, 0, cuts, 0, cuts.length);
            size = other.size;
        }

        boolean has(int profile) {
            return profile >= 0 && profile < size;
        }

        boolean isFull() {
            return size >= MOST_PROFILES;
        }

        int widthAt(int profile, int step) {
            return widths[profile * STEPS + step];
        }

        int greatestWidth(int profile) {
            int greatest = 0;
            for (int step = 0; step < STEPS; step++) {
                greatest = Math.max(greatest, widthAt(profile, step));
            }
            return greatest;
        }

        int sumOfWidths(int profile) {
            int sum = 0;
            for (int step = 0; step < STEPS; step++) {
                sum += widthAt(profile, step);
            }
            return sum;
        }

        boolean isAlike(int profile, int[] row, int start) {
            for (int step = 0; step < STEPS; step++) {
                if (widthAt(profile, step) != row[start + step]) {
                    return false;
                }
            }
            return true;
        }

        boolean areAlike(int one, int other) {
            return isAlike(one, widths, other * STEPS);
        }

        int lowestAlike(int profile) {
            for (int lower = 0; lower < profile; lower++) {
                if (areAlike(lower, profile)) {
                    return lower;
                }
            }
            return profile;
        }

        /** The lowest profile with the widths of the row from start on, kept anew if there is none, or FULL. */
        int numberFor(int[] row, int start) {
            for (int profile = 0; profile < size; profile++) {
                if (isAlike(profile, row, start)) {
                    return profile;
                }
            }
            return isFull() ? FULL : add(row, start);
        }

        /** Keeps one more; only where there is room. */
        int add(int[] row, int start) {
            int number = size;
            System.arraycopy(row, start, widths, number * STEPS, STEPS);
            size++;
            return number;
        }

        int addLike(int profile, int step, int width) {
            int number = add(widths, profile * STEPS);
            widths[number * STEPS + step] = width;
            return number;
        }

        boolean hasInStock(int profile, int want) {
            boolean leftThere = want == TO_THE_RIGHT || lefts[profile] > 0;
            boolean rightThere = want == TO_THE_LEFT || rights[profile] > 0;
            return leftThere && rightThere;
        }

        void takeFromStock(int profile, int want) {
            if (want != TO_THE_RIGHT) {
                lefts[profile]--;
            }
            if (want != TO_THE_LEFT) {
                rights[profile]--;
            }
        }

        int inStock() {
            int sum = 0;
            for (int profile = 0; profile < size; profile++) {
                sum += lefts[profile] + rights[profile];
            }
            return sum;
        }

        int cutSoFar() {
            int sum = 0;
            for (int profile = 0; profile < size; profile++) {
                sum += cuts[profile];
            }
            return sum;
        }
    }

    /** The strips of paper. */
    private static final class Strips {
        final int[] lengths = new int[MOST_STRIPS];
        final int[] thicknesses = new int[MOST_STRIPS];
        int size = 0;

        void copyFrom(Strips other) {
            System.arraycopy(other.lengths, 0, lengths, 0, lengths.length);
            System.arraycopy(other.thicknesses, 0, thicknesses, 0, thicknesses.length);
            size = other.size;
        }

        boolean has(int strip) {
            return strip >= 0 && strip < size;
        }

        boolean isFull() {
            return size >= MOST_STRIPS;
        }

        /** Lays one more behind the others; only where there is room. */
        int add(int length, int thickness) {
            int number = size;
            lengths[number] = length;
            thicknesses[number] = thickness;
            size++;
            return number;
        }

        void shorten(int strip, int taken) {
            lengths[strip] -= taken;
            if (lengths[strip] == 0) {
                remove(strip);
            }
        }

        void remove(int strip) {
            int behind = size - strip - 1;
            System.arraycopy(lengths, strip + 1, lengths, strip, behind);
            System.arraycopy(thicknesses, strip + 1, thicknesses, strip, behind);
            size--;
        }

        int sumOfLengths() {
            int sum = 0;
            for (int strip = 0; strip < size; strip++) {
                sum += lengths[strip];
            }
            return sum;
        }
    }

    /** The line of sitters that wait. */
    private static final class Line {
        final int[] profiles = new int[MOST_SITTERS];
        final int[] wants = new int[MOST_SITTERS];
        final int[] patiences = new int[MOST_SITTERS];
        int size = 0;

        void copyFrom(Line other) {
            System.arraycopy(other.profiles, 0, profiles, 0, profiles.length);
            System.arraycopy(other.wants, 0, wants, 0, wants.length);
            System.arraycopy(other.patiences, 0, patiences, 0, patiences.length);
            size = other.size;
        }

        boolean has(int sitter) {
            return sitter >= 0 && sitter < size;
        }

        boolean isFull() {
            return size >= MOST_SITTERS;
        }

        /** Puts one more behind the others, only where there is room, and tells how many wait then. */
        int add(int profile, int want, int patience) {
            profiles[size] = profile;
            wants[size] = want;
            patiences[size] = patience;
            size++;
            return size;
        }

        void remove(int sitter) {
            int behind = size - sitter - 1;
            System.arraycopy(profiles, sitter + 1, profiles, sitter, behind);
            System.arraycopy(wants, sitter + 1, wants, sitter, behind);
            System.arraycopy(patiences, sitter + 1, patiences, sitter, behind);
            size--;
        }

        /** Takes patience from all, lets those go that have none left, and tells how many went. */
        int loseOver(int ticks) {
            int before = size;
            // from the end on, as those behind one that goes move up
            for (int sitter = size - 1; sitter >= 0; sitter--) {
                patiences[sitter] -= ticks;
                if (patiences[sitter] <= 0) {
                    remove(sitter);
                }
            }
            return before - size;
        }

        int countOf(int profile) {
            int found = 0;
            for (int sitter = 0; sitter < size; sitter++) {
                if (profiles[sitter] == profile) {
                    found++;
                }
            }
            return found;
        }

        int countOfSide(int profile, int side) {
            int found = 0;
            for (int sitter = 0; sitter < size; sitter++) {
                boolean wanted = wants[sitter] == side || wants[sitter] == COUPLE;
                if (profiles[sitter] == profile && wanted) {
                    found++;
                }
            }
            return found;
        }
    }

    /** A state: everything but the text, the history and the snapshot. */
    private static final class Stall {
        final Profiles profiles = new Profiles();
        final Strips strips = new Strips();
        final Line line = new Line();
        final int[] settings = FIRST_SETTING.clone();
        int coins = FIRST_COINS;
        int clock = 0;
        int served = 0;
        int gone = 0;
        int lengthCut = 0;

        void copyFrom(Stall other) {
            profiles.copyFrom(other.profiles);
            strips.copyFrom(other.strips);
            line.copyFrom(other.line);
            System.arraycopy(other.settings, 0, settings, 0, settings.length);
            coins = other.coins;
            clock = other.clock;
            served = other.served;
            gone = other.gone;
            lengthCut = other.lengthCut;
        }

        boolean isTooThick(int strip, int folds) {
            return layersOf(folds) * strips.thicknesses[strip] > settings[BLADE];
        }

        int mostFolds(int strip) {
            for (int folds = MOST_FOLDS; folds >= 0; folds--) {
                if (!isTooThick(strip, folds)) {
                    return folds;
                }
            }
            return NONE;
        }

        int lengthTaken(int profile, int folds) {
            int blank = profiles.greatestWidth(profile) + settings[MARGIN] + folds * settings[CREEP];
            return layersOf(folds) * blank;
        }

        /** The first reason why a cut is not possible, or 0. */
        int reasonAgainst(int profile, int strip, int folds) {
            if (isTooThick(strip, folds)) {
                return TOO_THICK;
            }
            return lengthTaken(profile, folds) > strips.lengths[strip] ? TOO_SHORT : 0;
        }

        /** Makes a cut that reasonAgainst() allows. */
        void makeCut(int profile, int strip, int folds) {
            int taken = lengthTaken(profile, folds);
            strips.shorten(strip, taken);
            lengthCut += taken;
            profiles.lefts[profile] += leftLayersOf(folds);
            profiles.rights[profile] += rightLayersOf(folds);
            profiles.cuts[profile] += layersOf(folds);
            letTimePass(1 + folds);
        }

        void letTimePass(int ticks) {
            clock += ticks;
            gone += line.loseOver(ticks);
        }

        /** The profile that a sitter can be served with, or NONE. */
        int findFor(int sitter) {
            int wanted = line.profiles[sitter];
            int want = line.wants[sitter];
            for (int profile = 0; profile < profiles.size; profile++) {
                if (profiles.areAlike(profile, wanted) && profiles.hasInStock(profile, want)) {
                    return profile;
                }
            }
            return NONE;
        }

        void handOver(int sitter, int profile) {
            int want = line.wants[sitter];
            profiles.takeFromStock(profile, want);
            coins += want == COUPLE ? PAY_FOR_A_COUPLE : PAY_FOR_ONE;
            served++;
            line.remove(sitter);
        }

        /** Serves all that can be served, and tells how many. */
        int handOverAll() {
            int before = line.size;
            int sitter = 0;
            for (int turns = 0; turns < before; turns++) {
                int profile = findFor(sitter);
                if (profile == NONE) {
                    sitter++;
                } else {
                    // the next one moves up into this place
                    handOver(sitter, profile);
                }
            }
            return before - line.size;
        }
    }

    /** The latest states, in a ring. */
    private static final class History {
        final Stall[] states = new Stall[MOST_STATES];
        int oldest = 0;
        int size = 0;

        History() {
            for (int place = 0; place < MOST_STATES; place++) {
                states[place] = new Stall();
            }
        }

        void push(Stall state) {
            if (size == MOST_STATES) {
                oldest = (oldest + 1) % MOST_STATES;
                size--;
            }
            states[(oldest + size) % MOST_STATES].copyFrom(state);
            size++;
        }

        /** Removes the latest state; only where there is one. */
        void popInto(Stall state) {
            size--;
            state.copyFrom(states[(oldest + size) % MOST_STATES]);
        }
    }

    /** The text, and the sitters that were read from it. */
    private static final class SitterText {
        final char[] signs = new char[MOST_TEXT];
        int length = 0;
        final int[] widths = new int[MOST_ENTRIES * STEPS];
        final int[] wants = new int[MOST_ENTRIES];
        final int[] patiences = new int[MOST_ENTRIES];
        int entries = 0;
        // behind a read() that answered false this is the fault
        int at = 0;

        boolean read() {
            at = 0;
            entries = 0;
            for (int entry = 0; entry < MOST_ENTRIES; entry++) {
                if (entry > 0 && !take(';')) {
                    return false;
                }
                if (!readWidths(entry * STEPS) || !readWant(entry)) {
                    return false;
                }
                patiences[entry] = readPatience();
                if (at == length) {
                    entries = entry + 1;
                    return true;
                }
            }
            // a ";" behind the last entry that fits fills the text, which then ends too early
            take(';');
            return false;
        }

        boolean readWidths(int start) {
            for (int step = 0; step < STEPS; step++) {
                if (!isDigitFrom('1')) {
                    return false;
                }
                widths[start + step] = readDigit();
            }
            return true;
        }

        boolean readWant(int entry) {
            if (take('l')) {
                wants[entry] = TO_THE_LEFT;
            } else if (take('r')) {
                wants[entry] = TO_THE_RIGHT;
            } else if (take('c')) {
                wants[entry] = COUPLE;
            } else {
                return false;
            }
            return true;
        }

        // two digits make at most 99, so a third is never read
        int readPatience() {
            if (!isDigitFrom('1')) {
                return USUAL_PATIENCE;
            }
            int patience = readDigit();
            if (isDigitFrom('0')) {
                patience = patience * 10 + readDigit();
            }
            return patience;
        }

        boolean isDigitFrom(char least) {
            return at < length && signs[at] >= least && signs[at] <= '9';
        }

        int readDigit() {
            int digit = signs[at] - '0';
            at++;
            return digit;
        }

        boolean take(char sign) {
            if (at >= length || signs[at] != sign) {
                return false;
            }
            at++;
            return true;
        }
    }
}
