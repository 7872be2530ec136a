import java.util.ArrayList;
import java.util.List;
import java.util.function.Supplier;

/** Brings chips into the states that tests start from, and looks at all that is told of them. */
final class Chips {
    private Chips() {
    }

    /** The next values on either side of a range, and the farthest ones. */
    static int[] beyond(int least, int most) {
        return new int[] {least - 1, most + 1, Integer.MIN_VALUE, Integer.MAX_VALUE};
    }

    // ---- states that tests start from

    /**
     * A chip with some of everything: wires from pads 0, 3, 4, 7, 8, 10 to leads 5, 2, 1, 9, 12, 15, crossings, short
     * ones, a lead that was moved, a worn tool, one that was changed, a tail that was lost, a wire that broke, four
     * states, a snapshot of another state, a text.
     */
    static WireLoops busy() {
        WireLoops x = new WireLoops();
        x.lay(0, 5, 100);
        x.lay(3, 2, 100);
        x.lay(4, 1, 130);
        x.lay(7, 9, 40);
        x.lay(8, 12, 60);
        x.lay(9, 13, 70);
        x.lay(10, 14, 80);
        x.thread();
        x.pull(10, 100);
        x.changeTool();
        x.lay(10, 15, 200);
        x.keep();
        x.takeOff(9);
        x.pull(4, 33);
        x.moveLead(8, 77);
        x.setWidth(12);
        type(x, "5-6");
        return x;
    }

    /** Tail lost, tool worn out, a wire from pad 11 to lead 15, four states, a snapshot, a text. */
    static WireLoops spent() {
        WireLoops x = new WireLoops();
        for (int laid = 1; laid <= 35; laid++) {
            x.takeOff(11);
            x.lay(11, 15, laid <= 30 ? 200 : 100);
            if (laid % 7 == 0 && laid < 35) {
                x.thread();
            }
            if (laid == 20) {
                x.keep();
            }
        }
        type(x, "3-4");
        return x;
    }

    static WireLoops withText(String characters) {
        WireLoops x = new WireLoops();
        type(x, characters);
        return x;
    }

    static void type(WireLoops x, String characters) {
        for (int i = 0; i < characters.length(); i++) {
            x.type(characters.charAt(i));
        }
    }

    /** The same states with another text. */
    static Supplier<WireLoops> retyped(Supplier<WireLoops> made, String characters) {
        return () -> {
            WireLoops x = made.get();
            x.clearText();
            type(x, characters);
            return x;
        };
    }

    /** Lays and takes off wires from pad 11 to lead 15 until the wear is as told (0, or 2 and more). */
    static WireLoops worn(int wear) {
        WireLoops x = new WireLoops();
        int laid = 0;
        int left = wear;
        while (left > 0) {
            int step = left >= 8 || left == 6 ? 6 : left == 7 ? 4 : left;
            x.lay(11, 15, step == 2 ? 10 : (step - 2) * 50);
            x.takeOff(11);
            left -= step;
            laid++;
            if (laid % 7 == 0) {
                x.thread();
            }
        }
        return x;
    }

    /** Lays so many wires of height 10, from each pad to the lead with its number. */
    static WireLoops withWires(int wires) {
        WireLoops x = new WireLoops();
        for (int pad = 0; pad < wires; pad++) {
            x.lay(pad, pad, 10);
            if (pad == 6 && wires > 7) {
                x.thread();
            }
        }
        return x;
    }

    static WireLoops full() {
        return withWires(12);
    }

    /** Lays and takes off so many wires of height 10 on a new chip, and threads each tail but one that is lost last. */
    static WireLoops laidSoFar(int wires) {
        WireLoops x = new WireLoops();
        for (int laid = 1; laid <= wires; laid++) {
            x.lay(11, 15, 10);
            x.takeOff(11);
            if (laid % 7 == 0 && laid < wires) {
                x.thread();
            }
        }
        return x;
    }

    /** Two wires, of heights 60, from the pads to leads 0 and 1, which are moved to the x's first. */
    static WireLoops pair(int one, int xOfOne, int other, int xOfOther) {
        WireLoops x = new WireLoops();
        x.moveLead(0, xOfOne);
        x.moveLead(1, xOfOther);
        x.lay(one, 0, 60);
        x.lay(other, 1, 60);
        return x;
    }

    /** Wires from pads 0 and 1 that cross at y 100, where each has the height that it is laid with. */
    static WireLoops middle(int height, int other) {
        WireLoops x = pair(0, 120, 1, 100);
        x.bend(0, height);
        x.bend(1, other);
        return x;
    }

    /** Pads 0, 1, 2 go to 200, 180, 160: 0 crosses both others at y 100, at their full heights. */
    static WireLoops middleOfThree(int width, int heightOf1, int heightOf2) {
        WireLoops x = new WireLoops();
        x.setWidth(width);
        x.moveLead(6, 180);
        x.moveLead(7, 160);
        x.lay(0, 5, 60);
        x.lay(1, 6, heightOf1);
        x.lay(2, 7, heightOf2);
        return x;
    }

    /** Pads 0, 3, 4 at 100, 160, 180 go to 200, 80, 40, 100, 100 and 80 high: each crosses each other. */
    static WireLoops threeCrossing() {
        WireLoops x = new WireLoops();
        x.lay(0, 5, 100);
        x.lay(3, 2, 100);
        x.lay(4, 1, 80);
        return x;
    }

    // ---- what is told of them

    /** All that is told of a state: at most 112 calls. */
    static String state(WireLoops x) {
        return told(x, 6);
    }

    /** A state without what is worked out of the rest: at most 76 calls. */
    static String brief(WireLoops x) {
        return told(x, 2) + numbers(x);
    }

    private static String told(WireLoops x, int mostOfWire) {
        StringBuilder told = new StringBuilder();
        for (int what = 0; what < 12; what++) {
            told.append(x.count(what)).append(' ');
        }
        for (int pad = 0; pad < 12; pad++) {
            int lead = x.wire(pad, 0);
            told.append("| ").append(lead).append(' ');
            for (int what = 1; what <= mostOfWire && lead >= 0; what++) {
                told.append(x.wire(pad, what)).append(' ');
            }
        }
        for (int lead = 0; lead < 16; lead++) {
            told.append("/ ").append(x.lead(lead, 0)).append(' ');
        }
        return told.toString();
    }

    private static String numbers(WireLoops x) {
        StringBuilder told = new StringBuilder("#");
        for (int pad = 0; pad < 12; pad++) {
            told.append(' ').append(x.wire(pad, 6));
        }
        return told.toString();
    }

    /** The state, the number of states in the history, and the length of the text. */
    static String all(WireLoops x) {
        return state(x) + "; " + x.count(12) + ' ' + x.count(13);
    }

    /** The states that undo() goes back to, the latest one first. */
    static List<String> past(WireLoops x) {
        List<String> past = new ArrayList<>();
        while (past.size() < 5 && x.undo() != WireLoops.NONE) {
            past.add(brief(x));
        }
        return past;
    }

    /** The state of the snapshot, and what is laid by the text from there on, all wires being taken off. */
    static String snapshotAndText(WireLoops x) {
        return x.restore() + ": " + brief(x) + "; " + x.count(13) + ": " + layAllAnew(x);
    }

    private static String layAllAnew(WireLoops x) {
        int answer = x.layAll();
        for (int pad = 0; pad < 12; pad++) {
            x.takeOff(pad);
        }
        x.thread();
        x.changeTool();
        return answer + ", then " + x.layAll() + ": " + brief(x);
    }

    /** All that can be told of a chip, with what is hidden in history, snapshot and text. */
    static String whole(Supplier<WireLoops> made) {
        return all(made.get()) + "\npast: " + past(made.get()) + "\nsnapshot: " + snapshotAndText(made.get())
            + "\ntext: " + layAllAnew(made.get());
    }
}
