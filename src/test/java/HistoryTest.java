/** Promises 14 to 16: undo, keep, restore; and what a state is. */
public final class HistoryTest {
    private static final Check CHECK = new Check("HistoryTest");

    public static void main(String[] args) {
        undoOfEachAct();
        undoIsBounded();
        undoMany();
        undoBringsNumbersBack();
        undoLeavesTextAndSnapshot();
        undoLeavesLaterStatesWhole();
        keepAndRestore();
        restoreIsAnAct();
        restoreBringsAllBack();
        noneChangesNothing();
        CHECK.end();
    }

    private static void due(String call, int got, int want) {
        CHECK.due(call, got, want);
    }

    private static void act(WireLoops x, int which) {
        switch (which) {
            case 0: x.lay(9, 12, 155); break;
            case 1: x.layAll(); break;
            case 2: x.takeOff(3); break;
            case 3: x.bend(3, 77); break;
            case 4: x.moveLead(8, 78); break;
            case 5: x.setWidth(33); break;
            case 6: x.changeTool(); break;
            case 7: x.thread(); break;
            case 8: x.pull(0, 50); break;
            case 9: x.pull(0, 100); break;
            case 10: x.sample(2, 90); break;
            default: x.restore(); break;
        }
    }

    private static void undoOfEachAct() {
        for (int which = 0; which < 12; which++) {
            WireLoops x = Chips.busy();
            if (which == 7) {
                for (int pad = 9; pad < 12; pad++) {
                    x.lay(pad, pad + 3, 60);
                }
            }
            String before = Chips.state(x);
            act(x, which);
            String then = Chips.state(x);
            CHECK.due("act " + which + " changes something", then.equals(before) ? 0 : 1, 1);
            due("undo of act " + which, x.undo(), 3);
            CHECK.same("undone act " + which, Chips.state(x), before);
        }
    }

    private static void undoIsBounded() {
        WireLoops x = new WireLoops();
        for (int width = 11; width <= 20; width++) {
            x.setWidth(width);
            due("states", x.count(12), Math.min(4, width - 10));
        }
        for (int left = 3; left >= 0; left--) {
            due("undo", x.undo(), left);
            due("width", x.count(7), 16 + left);
        }
        due("undo of none", x.undo(), WireLoops.NONE);
        due("width stays", x.count(7), 16);
        due("act", x.setWidth(5), 16);
        due("one state", x.count(12), 1);
    }

    private static void undoMany() {
        WireLoops x = new WireLoops();
        x.setWidth(1);
        x.setWidth(2);
        x.undo();
        x.setWidth(3);
        x.setWidth(4);
        x.setWidth(5);
        x.setWidth(6);
        due("full", x.count(12), 4);
        x.undo();
        x.undo();
        due("width", x.count(7), 4);
        x.setWidth(7);
        due("three", x.count(12), 3);
        int[] widths = {4, 3, 1};
        for (int i = 0; i < 3; i++) {
            due("undo", x.undo(), 2 - i);
            due("width", x.count(7), widths[i]);
        }
        due("the oldest one was dropped", x.undo(), WireLoops.NONE);
    }

    private static void undoBringsNumbersBack() {
        WireLoops x = new WireLoops();
        x.lay(3, 4, 60);
        x.keep();
        x.takeOff(3);
        x.lay(3, 5, 100);
        due("number", x.wire(3, 6), 1);
        x.undo();
        x.undo();
        due("number ahead of that", x.wire(3, 6), 0);
        due("lead ahead of that", x.wire(3, 0), 4);
        x.takeOff(3);
        x.lay(3, 6, 70);
        x.restore();
        due("number of the snapshot", x.wire(3, 6), 0);
        due("so far", x.count(1), 1);
    }

    private static void undoLeavesTextAndSnapshot() {
        WireLoops x = new WireLoops();
        x.setWidth(20);
        Chips.type(x, "ab");
        x.keep();
        x.lay(0, 0, 60);
        x.keep();
        due("undo", x.undo(), 1);
        due("undo", x.undo(), 0);
        due("text stays", x.count(13), 2);
        due("no wires", x.count(0), 0);
        due("the later snapshot", x.restore(), 1);
        due("its width", x.count(7), 20);
        due("text stays", x.count(13), 2);
    }

    private static void undoLeavesLaterStatesWhole() {
        WireLoops x = new WireLoops();
        String[] states = new String[4];
        for (int pad = 0; pad < 3; pad++) {
            states[pad] = Chips.state(x);
            x.lay(pad, pad + 3, 60 + pad);
        }
        for (int pad = 2; pad >= 0; pad--) {
            x.undo();
            CHECK.same("state " + pad, Chips.state(x), states[pad]);
        }
    }

    private static void keepAndRestore() {
        WireLoops x = new WireLoops();
        due("no snapshot", x.restore(), WireLoops.NONE);
        due("kept without wires", x.keep(), 0);
        due("keep is no act", x.count(12), 0);
        x.lay(0, 0, 60);
        x.lay(1, 1, 60);
        due("restored", x.restore(), 0);
        due("none so far", x.count(1), 0);
        x.lay(5, 5, 60);
        due("in place of the old one", x.keep(), 1);
        x.takeOff(5);
        due("restored", x.restore(), 1);
        due("number", x.wire(5, 6), 0);
        x.bend(5, 200);
        due("it stays", x.restore(), 1);
        due("and is not changed by acts", x.wire(5, 1), 60);
    }

    private static void restoreIsAnAct() {
        WireLoops x = new WireLoops();
        x.restore();
        due("NONE records nothing", x.count(12), 0);
        x.keep();
        due("restored as it is", x.restore(), 0);
        due("recorded", x.count(12), 1);
        x.lay(0, 0, 60);
        x.restore();
        due("recorded", x.count(12), 3);
        due("undo", x.undo(), 2);
        due("the wire is back", x.count(0), 1);
    }

    private static void restoreBringsAllBack() {
        WireLoops x = Chips.busy();
        for (int pad = 9; pad < 12; pad++) {
            x.lay(pad, pad + 3, 60);
        }
        x.pull(7, 100);
        x.changeTool();
        x.setWidth(44);
        x.keep();
        String kept = Chips.state(x);
        x.thread();
        x.lay(1, 0, 200);
        x.changeTool();
        x.sample(1, 100);
        x.setWidth(3);
        x.moveLead(8, 5);
        x.restore();
        CHECK.same("restored", Chips.state(x), kept);
        due("the tail is lost again", x.lay(8, 8, 60), WireLoops.NO_TAIL);
    }

    private static void noneChangesNothing() {
        WireLoops x = new WireLoops();
        String before = Chips.all(x);
        x.restore();
        x.undo();
        x.thread();
        x.changeTool();
        x.setWidth(10);
        x.moveLead(2, 80);
        x.sample(1, 1);
        CHECK.same("after NONE", Chips.all(x), before);
        x.lay(0, 0, 60);
        before = Chips.all(x);
        x.bend(0, 60);
        CHECK.same("after NONE of bend", Chips.all(x), before);
    }
}
