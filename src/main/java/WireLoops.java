import java.util.Arrays;

/** Wire bonds on a chip. The document ../shared/DOC.md says what each call promises. */
public final class WireLoops {
    public static final int UNKNOWN = -1;
    public static final int BAD_VALUE = -2;
    public static final int FULL = -3;
    public static final int TAKEN = -4;
    public static final int NONE = -5;
    public static final int NO_TAIL = -6;
    public static final int WORN = -7;

    private static final int PADS = 12;
    private static final int LEADS = 16;
    private static final int LEADS_Y = 200;
    private static final int MOST_X = 600;
    private static final int LEAST_HEIGHT = 10;
    private static final int MOST_HEIGHT = 200;
    private static final int USUAL_HEIGHT = 60;
    private static final int FIRST_WIDTH = 10;
    private static final int MOST_WIDTH = 50;
    private static final int MOST_FORCE = 100;
    private static final int FULL_STRENGTH = 100;
    private static final int WORN_AT = 200;
    private static final int WIRES_PER_TAIL = 7;
    private static final int MOST_STATES = 4;
    private static final int MOST_CHARACTERS = 80;
    // A listed wire takes four characters at least, its comma counted.
    private static final int MOST_LISTED = 20;

    private static final int BROKE = 1000;
    private static final int FAULT_BASE = -100;
    private static final int NO_ERROR = 0;
    private static final int NO_LEAD = -1;
    private static final int NO_FAULT = -1;
    private static final int NO_DIGIT = -1;
    private static final int NO_NUMBER = -1;

    private final Chip chip;
    private final Chip beforeList;
    private final Chip snapshot;
    private boolean hasSnapshot;
    private final History history;
    private final WireList text;

    public WireLoops() {
        chip = new Chip();
        beforeList = new Chip();
        snapshot = new Chip();
        hasSnapshot = false;
        history = new History();
        text = new WireList();
    }

    // ---- wires, leads

    public int lay(int pad, int lead, int height) {
        if (!isPad(pad) || !isLead(lead)) {
            return UNKNOWN;
        }
        if (!isHeight(height)) {
            return BAD_VALUE;
        }
        int error = chip.errorOfLaying(pad, lead);
        if (error != NO_ERROR) {
            return error;
        }
        history.record(chip);
        chip.addWire(pad, lead, height);
        return chip.strengthOf(pad);
    }

    public int layAll() {
        int fault = text.read();
        if (fault != NO_FAULT) {
            return FAULT_BASE - fault;
        }
        beforeList.copyFrom(chip);
        int error = chip.addListed(text);
        if (error != NO_ERROR) {
            chip.copyFrom(beforeList);
            return error;
        }
        history.record(beforeList);
        return chip.wires();
    }

    public int takeOff(int pad) {
        if (!chip.hasWire(pad)) {
            return UNKNOWN;
        }
        history.record(chip);
        int strength = chip.strengthOf(pad);
        chip.removeWire(pad);
        return strength;
    }

    public int bend(int pad, int height) {
        if (!chip.hasWire(pad)) {
            return UNKNOWN;
        }
        if (!isHeight(height)) {
            return BAD_VALUE;
        }
        int previous = chip.heightOf(pad);
        if (previous == height) {
            return NONE;
        }
        history.record(chip);
        chip.changeHeight(pad, height);
        return previous;
    }

    public int moveLead(int lead, int x) {
        if (!isLead(lead)) {
            return UNKNOWN;
        }
        if (!isWithin(x, 0, MOST_X)) {
            return BAD_VALUE;
        }
        if (chip.padAtLead(lead) != NONE) {
            return TAKEN;
        }
        int previous = chip.xOfLead(lead);
        if (previous == x) {
            return NONE;
        }
        history.record(chip);
        chip.placeLead(lead, x);
        return previous;
    }

    public int setWidth(int width) {
        if (!isWithin(width, 1, MOST_WIDTH)) {
            return BAD_VALUE;
        }
        int previous = chip.width;
        if (previous == width) {
            return NONE;
        }
        history.record(chip);
        chip.width = width;
        return previous;
    }

    // ---- tool, tail, tests

    public int changeTool() {
        int wear = chip.wear;
        if (wear == 0) {
            return NONE;
        }
        history.record(chip);
        chip.wear = 0;
        chip.toolsChanged++;
        return wear;
    }

    public int thread() {
        if (!chip.tailLost) {
            return NONE;
        }
        history.record(chip);
        chip.tailLost = false;
        return chip.tailsLost;
    }

    public int pull(int pad, int force) {
        if (!chip.hasWire(pad)) {
            return UNKNOWN;
        }
        if (!isWithin(force, 1, MOST_FORCE)) {
            return BAD_VALUE;
        }
        history.record(chip);
        return chip.breaksUnder(pad, force) ? BROKE : chip.strengthOf(pad);
    }

    public int sample(int every, int force) {
        if (!isWithin(every, 1, PADS) || !isWithin(force, 1, MOST_FORCE)) {
            return BAD_VALUE;
        }
        if (chip.wires() == 0) {
            return NONE;
        }
        history.record(chip);
        return chip.breakingOfSample(every, force);
    }

    // ---- texts

    public int type(char character) {
        if (!text.append(character)) {
            return FULL;
        }
        return text.length();
    }

    public int clearText() {
        int length = text.length();
        text.empty();
        return length;
    }

    // ---- history

    public int undo() {
        if (history.states() == 0) {
            return NONE;
        }
        history.takeLatest(chip);
        return history.states();
    }

    public int keep() {
        snapshot.copyFrom(chip);
        hasSnapshot = true;
        return chip.wires();
    }

    public int restore() {
        if (!hasSnapshot) {
            return NONE;
        }
        history.record(chip);
        chip.copyFrom(snapshot);
        return chip.wires();
    }

    // ---- what is told

    public int wire(int pad, int what) {
        if (!chip.hasWire(pad)) {
            return UNKNOWN;
        }
        switch (what) {
            case 0:
                return chip.leadAtPad(pad);
            case 1:
                return chip.heightOf(pad);
            case 2:
                return chip.strengthOf(pad);
            case 3:
                return chip.crossingsOf(pad);
            case 4:
                return chip.shortOnes(pad, chip.heightOf(pad));
            case 5:
                return chip.leastGap(pad);
            case 6:
                return chip.numberOf(pad);
            default:
                return BAD_VALUE;
        }
    }

    public int heightAt(int pad, int y) {
        if (!chip.hasWire(pad)) {
            return UNKNOWN;
        }
        if (!isWithin(y, 0, LEADS_Y)) {
            return BAD_VALUE;
        }
        return loopAt(chip.heightOf(pad), y);
    }

    public int crossing(int one, int other, int what) {
        if (!chip.hasWire(one) || !chip.hasWire(other)) {
            return UNKNOWN;
        }
        if (!isWithin(what, 0, 2)) {
            return BAD_VALUE;
        }
        if (!chip.cross(one, other)) {
            return NONE;
        }
        switch (what) {
            case 0:
                return chip.crossingY(one, other);
            case 1:
                return chip.gap(one, chip.heightOf(one), other);
            default:
                return chip.isShort(one, chip.heightOf(one), other) ? 1 : 0;
        }
    }

    public int lead(int lead, int what) {
        if (!isLead(lead)) {
            return UNKNOWN;
        }
        switch (what) {
            case 0:
                return chip.xOfLead(lead);
            case 1:
                return chip.padAtLead(lead);
            default:
                return BAD_VALUE;
        }
    }

    public int bestHeight(int pad, int what) {
        if (!chip.hasWire(pad)) {
            return UNKNOWN;
        }
        if (!isWithin(what, 0, 1)) {
            return BAD_VALUE;
        }
        int height = chip.clearestHeight(pad);
        return what == 0 ? height : chip.shortOnes(pad, height);
    }

    public int laysLeft(int height) {
        if (!isHeight(height)) {
            return BAD_VALUE;
        }
        return chip.laysUntilStop(height);
    }

    public int count(int what) {
        switch (what) {
            case 0:
                return chip.wires();
            case 1:
                return chip.laid;
            case 2:
                return chip.allCrossings();
            case 3:
                return chip.allShortOnes();
            case 4:
                return chip.wear;
            case 5:
                return chip.tailLost ? 1 : 0;
            case 6:
                return chip.tailsLost;
            case 7:
                return chip.width;
            case 8:
                return chip.broken;
            case 9:
                return chip.weakestPad();
            case 10:
                return chip.allStrengths();
            case 11:
                return chip.toolsChanged;
            case 12:
                return history.states();
            case 13:
                return text.length();
            default:
                return BAD_VALUE;
        }
    }

    // ---- ranges, places

    private static boolean isWithin(int value, int least, int most) {
        return value >= least && value <= most;
    }

    private static boolean isPad(int pad) {
        return pad >= 0 && pad < PADS;
    }

    private static boolean isLead(int lead) {
        return lead >= 0 && lead < LEADS;
    }

    private static boolean isHeight(int height) {
        return isWithin(height, LEAST_HEIGHT, MOST_HEIGHT);
    }

    private static int padX(int pad) {
        return 100 + 20 * pad;
    }

    private static int loopAt(int height, int y) {
        return height * y * (LEADS_Y - y) * 4 / 40000;
    }

    /** A state: all that undo() and restore() bring back. */
    private static final class Chip {
        private final int[] leadX = new int[LEADS];
        private final int[] leadOf = new int[PADS];
        private final int[] height = new int[PADS];
        private final int[] strength = new int[PADS];
        private final int[] number = new int[PADS];
        private int laid;
        private int width;
        private int wear;
        private int toolsChanged;
        private boolean tailLost;
        private int tailsLost;
        private int broken;

        Chip() {
            for (int lead = 0; lead < LEADS; lead++) {
                leadX[lead] = 40 * lead;
            }
            Arrays.fill(leadOf, NO_LEAD);
            width = FIRST_WIDTH;
        }

        void copyFrom(Chip other) {
            System.arraycopy(other.leadX, 0, leadX, 0, LEADS);
            System.arraycopy(other.leadOf, 0, leadOf, 0, PADS);
            System.arraycopy(other.height, 0, height, 0, PADS);
            System.arraycopy(other.strength, 0, strength, 0, PADS);
            System.arraycopy(other.number, 0, number, 0, PADS);
            laid = other.laid;
            width = other.width;
            wear = other.wear;
            toolsChanged = other.toolsChanged;
            tailLost = other.tailLost;
            tailsLost = other.tailsLost;
            broken = other.broken;
        }

        // ---- one wire, one lead

        boolean hasWire(int pad) {
            return isPad(pad) && leadOf[pad] != NO_LEAD;
        }

        int leadAtPad(int pad) {
            return isPad(pad) ? leadOf[pad] : NO_LEAD;
        }

        int heightOf(int pad) {
            return isPad(pad) ? height[pad] : 0;
        }

        int strengthOf(int pad) {
            return isPad(pad) ? strength[pad] : 0;
        }

        int numberOf(int pad) {
            return isPad(pad) ? number[pad] : 0;
        }

        int xOfLead(int lead) {
            return isLead(lead) ? leadX[lead] : 0;
        }

        int padAtLead(int lead) {
            for (int pad = 0; pad < PADS; pad++) {
                if (hasWire(pad) && leadOf[pad] == lead) {
                    return pad;
                }
            }
            return NONE;
        }

        private int endX(int pad) {
            // Without isPad() and isLead(): this is the end of the deepest chain of calls.
            int lead = pad >= 0 && pad < PADS ? leadOf[pad] : NO_LEAD;
            return lead >= 0 && lead < LEADS ? leadX[lead] : 0;
        }

        void changeHeight(int pad, int newHeight) {
            if (isPad(pad)) {
                height[pad] = newHeight;
            }
        }

        void placeLead(int lead, int x) {
            if (isLead(lead)) {
                leadX[lead] = x;
            }
        }

        // ---- laying

        int errorOfLaying(int pad, int lead) {
            if (hasWire(pad) || padAtLead(lead) != NONE) {
                return TAKEN;
            }
            if (tailLost) {
                return NO_TAIL;
            }
            return wear >= WORN_AT ? WORN : NO_ERROR;
        }

        void addWire(int pad, int lead, int newHeight) {
            if (!isPad(pad) || !isLead(lead)) {
                return;
            }
            leadOf[pad] = lead;
            height[pad] = newHeight;
            strength[pad] = newStrength(pad, lead);
            number[pad] = laid;
            wear += wearOfLaying(newHeight);
            laid++;
            if (losesTail(laid)) {
                tailLost = true;
                tailsLost++;
            }
        }

        int addListed(WireList list) {
            for (int index = 0; index < list.listed(); index++) {
                int pad = list.listedPad(index);
                int lead = list.listedLead(index);
                int error = errorOfLaying(pad, lead);
                if (error != NO_ERROR) {
                    return error;
                }
                addWire(pad, lead, list.listedHeight(index));
            }
            return NO_ERROR;
        }

        private int newStrength(int pad, int lead) {
            int ofTool = Math.max(0, FULL_STRENGTH - wear / 4);
            int way = Math.abs(padX(pad) - xOfLead(lead));
            return Math.max(0, ofTool - way / 20);
        }

        private static int wearOfLaying(int newHeight) {
            return 2 + newHeight / 50;
        }

        private static boolean losesTail(int laidThen) {
            return laidThen % WIRES_PER_TAIL == 0;
        }

        int laysUntilStop(int newHeight) {
            int wearThen = wear;
            boolean lost = tailLost;
            int lays = 0;
            while (lays < WIRES_PER_TAIL && !lost && wearThen < WORN_AT) {
                lays++;
                wearThen += wearOfLaying(newHeight);
                lost = losesTail(laid + lays);
            }
            return lays;
        }

        // ---- taking off, pulling

        void removeWire(int pad) {
            if (isPad(pad)) {
                leadOf[pad] = NO_LEAD;
            }
        }

        boolean breaksUnder(int pad, int force) {
            if (!hasWire(pad)) {
                return false;
            }
            if (strength[pad] < force) {
                removeWire(pad);
                broken++;
                return true;
            }
            strength[pad] = Math.max(0, strength[pad] - force / 10);
            return false;
        }

        int breakingOfSample(int every, int force) {
            int breaking = 0;
            int passedBy = 0;
            for (int pad = 0; pad < PADS; pad++) {
                if (!hasWire(pad)) {
                    continue;
                }
                if (passedBy == 0 && breaksUnder(pad, force)) {
                    breaking++;
                }
                passedBy++;
                if (passedBy == every) {
                    passedBy = 0;
                }
            }
            return breaking;
        }

        // ---- crossings

        boolean cross(int one, int other) {
            if (!hasWire(one) || !hasWire(other) || one == other) {
                return false;
            }
            return one < other ? endX(one) > endX(other) : endX(one) < endX(other);
        }

        int crossingY(int one, int other) {
            int padsWay = Math.abs(padX(one) - padX(other));
            int leadsWay = Math.abs(endX(one) - endX(other));
            int bothWays = padsWay + leadsWay;
            return bothWays > 0 ? LEADS_Y * padsWay / bothWays : 0;
        }

        int gap(int one, int heightOfOne, int other) {
            int y = crossingY(one, other);
            return Math.abs(loopAt(heightOfOne, y) - loopAt(heightOf(other), y));
        }

        boolean isShort(int one, int heightOfOne, int other) {
            return cross(one, other) && gap(one, heightOfOne, other) < width;
        }

        int crossingsOf(int pad) {
            int crossings = 0;
            for (int other = 0; other < PADS; other++) {
                if (cross(pad, other)) {
                    crossings++;
                }
            }
            return crossings;
        }

        int shortOnes(int pad, int heightOfPad) {
            int shortOnes = 0;
            for (int other = 0; other < PADS; other++) {
                if (isShort(pad, heightOfPad, other)) {
                    shortOnes++;
                }
            }
            return shortOnes;
        }

        int leastGap(int pad) {
            int least = NONE;
            for (int other = 0; other < PADS; other++) {
                if (cross(pad, other)) {
                    int gap = gap(pad, heightOf(pad), other);
                    least = least == NONE ? gap : Math.min(least, gap);
                }
            }
            return least;
        }

        int clearestHeight(int pad) {
            int best = LEAST_HEIGHT;
            int fewest = shortOnes(pad, best);
            for (int tried = LEAST_HEIGHT + 1; tried <= MOST_HEIGHT; tried++) {
                int shortOnes = shortOnes(pad, tried);
                if (shortOnes < fewest) {
                    best = tried;
                    fewest = shortOnes;
                }
            }
            return best;
        }

        // ---- sums over all wires

        int wires() {
            int wires = 0;
            for (int pad = 0; pad < PADS; pad++) {
                if (hasWire(pad)) {
                    wires++;
                }
            }
            return wires;
        }

        int allCrossings() {
            int crossings = 0;
            for (int one = 0; one < PADS; one++) {
                for (int other = one + 1; other < PADS; other++) {
                    if (cross(one, other)) {
                        crossings++;
                    }
                }
            }
            return crossings;
        }

        int allShortOnes() {
            int shortOnes = 0;
            for (int one = 0; one < PADS; one++) {
                for (int other = one + 1; other < PADS; other++) {
                    if (isShort(one, heightOf(one), other)) {
                        shortOnes++;
                    }
                }
            }
            return shortOnes;
        }

        int allStrengths() {
            int sum = 0;
            for (int pad = 0; pad < PADS; pad++) {
                if (hasWire(pad)) {
                    sum += strength[pad];
                }
            }
            return sum;
        }

        int weakestPad() {
            int weakest = NONE;
            for (int pad = 0; pad < PADS; pad++) {
                if (hasWire(pad) && (weakest == NONE || strength[pad] < strengthOf(weakest))) {
                    weakest = pad;
                }
            }
            return weakest;
        }
    }

    /** The latest states, the oldest one first. */
    private static final class History {
        private final Chip[] kept = new Chip[MOST_STATES];
        private int states;

        History() {
            for (int index = 0; index < MOST_STATES; index++) {
                kept[index] = new Chip();
            }
            states = 0;
        }

        int states() {
            return states;
        }

        void record(Chip state) {
            if (states >= MOST_STATES) {
                dropOldest();
            }
            Chip place = placeAt(states);
            if (place != null) {
                place.copyFrom(state);
                states++;
            }
        }

        void takeLatest(Chip target) {
            Chip latest = placeAt(states - 1);
            if (latest != null) {
                target.copyFrom(latest);
                states--;
            }
        }

        private Chip placeAt(int index) {
            return isWithin(index, 0, MOST_STATES - 1) ? kept[index] : null;
        }

        private void dropOldest() {
            // The dropped one's arrays serve again: no call makes new ones.
            Chip oldest = kept[0];
            for (int index = 1; index < MOST_STATES; index++) {
                kept[index - 1] = kept[index];
            }
            kept[MOST_STATES - 1] = oldest;
            states = MOST_STATES - 1;
        }
    }

    /** The text, and the wires that were read from it last. */
    private static final class WireList {
        private final char[] characters = new char[MOST_CHARACTERS];
        private int length;
        private int at;
        private final int[] pads = new int[MOST_LISTED];
        private final int[] leads = new int[MOST_LISTED];
        private final int[] heights = new int[MOST_LISTED];
        private int listed;

        int length() {
            return length;
        }

        boolean append(char character) {
            if (length >= MOST_CHARACTERS) {
                return false;
            }
            characters[length] = character;
            length++;
            return true;
        }

        void empty() {
            length = 0;
        }

        int listed() {
            return listed;
        }

        int listedPad(int index) {
            return isListed(index) ? pads[index] : 0;
        }

        int listedLead(int index) {
            return isListed(index) ? leads[index] : 0;
        }

        int listedHeight(int index) {
            return isListed(index) ? heights[index] : USUAL_HEIGHT;
        }

        private boolean isListed(int index) {
            return isWithin(index, 0, MOST_LISTED - 1) && index < listed;
        }

        /** The index of the text's fault, or NO_FAULT. */
        int read() {
            at = 0;
            listed = 0;
            for (int round = 0; round < MOST_LISTED; round++) {
                if (!readWire()) {
                    return at;
                }
                if (at >= length) {
                    return NO_FAULT;
                }
                if (!passBy(',')) {
                    return at;
                }
            }
            return at;
        }

        private boolean readWire() {
            int pad = readNumber(PADS - 1);
            if (pad == NO_NUMBER || !passBy('-')) {
                return false;
            }
            int lead = readNumber(LEADS - 1);
            if (lead == NO_NUMBER) {
                return false;
            }
            int height = passBy(':') ? readHeight() : USUAL_HEIGHT;
            if (height == NO_NUMBER || listed >= MOST_LISTED) {
                return false;
            }
            pads[listed] = pad;
            leads[listed] = lead;
            heights[listed] = height;
            listed++;
            return true;
        }

        private int readNumber(int most) {
            int first = digitHere();
            if (first == NO_DIGIT) {
                return NO_NUMBER;
            }
            at++;
            return first == 0 ? 0 : withDigit(first, most);
        }

        private int readHeight() {
            int first = digitHere();
            if (first == NO_DIGIT || first == 0) {
                return NO_NUMBER;
            }
            at++;
            int second = digitHere();
            if (second == NO_DIGIT) {
                return NO_NUMBER;
            }
            at++;
            return withDigit(10 * first + second, MOST_HEIGHT);
        }

        // A digit that would make too much stays unread: then it is the fault.
        private int withDigit(int number, int most) {
            int digit = digitHere();
            if (digit == NO_DIGIT || 10 * number + digit > most) {
                return number;
            }
            at++;
            return 10 * number + digit;
        }

        private int digitHere() {
            if (!isAtCharacter()) {
                return NO_DIGIT;
            }
            int digit = characters[at] - '0';
            return isWithin(digit, 0, 9) ? digit : NO_DIGIT;
        }

        private boolean passBy(char sign) {
            if (!isAtCharacter() || characters[at] != sign) {
                return false;
            }
            at++;
            return true;
        }

        private boolean isAtCharacter() {
            return at >= 0 && at < length && at < MOST_CHARACTERS;
        }
    }
}
