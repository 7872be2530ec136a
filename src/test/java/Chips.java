/** Brings chips into the states that tests start from, and looks at all that is told of them. */
final class Chips {
    private Chips() {
    }

    /** A chip with some of everything: crossings, short ones, a worn tool, states, a text, a snapshot. */
    static WireLoops busy() {
        WireLoops x = new WireLoops();
        x.lay(0, 5, 100);
        x.lay(3, 2, 100);
        x.keep();
        x.lay(4, 1, 130);
        x.lay(7, 9, 40);
        x.pull(4, 33);
        x.moveLead(8, 77);
        type(x, "5-6");
        return x;
    }

    static void type(WireLoops x, String characters) {
        for (int i = 0; i < characters.length(); i++) {
            x.type(characters.charAt(i));
        }
    }

    static WireLoops withText(String characters) {
        WireLoops x = new WireLoops();
        type(x, characters);
        return x;
    }

    /** Lays and takes off wires from pad 11 to lead 15 until the wear is as told (0, or 2 and more). */
    static WireLoops worn(int wear) {
        WireLoops x = new WireLoops();
        int laid = 0;
        int left = wear;
        while (left > 0) {
            int step = left >= 8 || left == 6 ? 6 : left == 7 ? 4 : left;
            x.lay(11, 15, step == 2 ? 10 : (step - 2) * 50);
            x.takeOff(11);
            left -= step;
            laid++;
            if (laid % 7 == 0) {
                x.thread();
            }
        }
        return x;
    }

    /** Lays so many wires of height 10, from each pad to the lead with its number. */
    static WireLoops withWires(int wires) {
        WireLoops x = new WireLoops();
        for (int pad = 0; pad < wires; pad++) {
            x.lay(pad, pad, 10);
            if (pad == 6) {
                x.thread();
            }
        }
        return x;
    }

    /** All that a state is, as the calls that only tell say it: at most 128 calls. */
    static String state(WireLoops x) {
        StringBuilder told = new StringBuilder();
        for (int what = 0; what < 12; what++) {
            told.append(x.count(what)).append(' ');
        }
        for (int pad = 0; pad < 12; pad++) {
            int lead = x.wire(pad, 0);
            told.append("| ").append(lead).append(' ');
            for (int what = 1; what < 7 && lead >= 0; what++) {
                told.append(x.wire(pad, what)).append(' ');
            }
        }
        for (int lead = 0; lead < 16; lead++) {
            told.append("/ ").append(x.lead(lead, 0)).append(' ');
        }
        return told.toString();
    }

    /** The state, the number of states in the history, and the length of the text. */
    static String all(WireLoops x) {
        return state(x) + "; " + x.count(12) + ' ' + x.count(13);
    }
}
