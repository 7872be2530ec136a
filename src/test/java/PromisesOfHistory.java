/** Promises 14 to 16, sentence by sentence: undo, keep, restore. */
final class PromisesOfHistory {
    private static final int NONE = WireLoops.NONE;

    private final Sentences of;

    PromisesOfHistory(Sentences of) {
        this.of = of;
    }

    void all() {
        String undoes = "`int undo()`: Removes and restores the latest state of the history.";
        String keeps = "`int keep()`: Takes a snapshot of the state, in place of the one that was.";
        String restores = "`int restore()`: Restores the state of the snapshot, which stays.";
        of.section("Promise 14");
        of.test(undoes, this::undoes);
        of.test(undoes, this::undoesNumbers);
        of.test("Returns the number of states that are left; NONE if the history is empty.", this::undoAnswers);
        of.section("Promise 15");
        of.test(keeps, this::keeps);
        of.test(keeps, this::keepsAnew);
        of.test("Returns how many wires there are.", this::keepAnswers);
        of.section("Promise 16");
        of.test(restores, this::restores);
        of.test(restores, this::snapshotStays);
        of.test("This is an act.", this::restoreIsAnAct);
        of.test("Returns how many wires there are then; NONE if there is no snapshot.", this::restoreAnswers);
    }

    // ---- promise 14

    private void undoes() {
        WireLoops x = new WireLoops();
        String[] states = new String[4];
        for (int pad = 0; pad < 4; pad++) {
            states[pad] = Chips.brief(x);
            x.lay(pad, pad + 3, 60 + pad);
        }
        for (int pad = 3; pad >= 0; pad--) {
            of.due("removed", x.undo(), pad);
            of.same("state " + pad, Chips.brief(x), states[pad]);
            of.due("states", x.count(12), pad);
        }
        x.lay(5, 5, 60);
        x.undo();
        of.same("laid anew and undone", Chips.brief(x), states[0]);
        x = Chips.busy();
        of.due("the width was set", x.undo(), 3);
        of.due("width", x.count(7), 10);
        of.due("lead 8 stays as it was moved", x.lead(8, 0), 77);
        of.due("lead 8 was moved", x.undo(), 2);
        of.due("lead 8", x.lead(8, 0), 320);
        of.due("pad 4 stays as it was pulled", x.wire(4, 2), 88);
        of.due("pad 4 was pulled", x.undo(), 1);
        of.due("pad 4", x.wire(4, 2), 91);
        of.due("pad 9 stays as it was taken off", x.wire(9, 0), WireLoops.UNKNOWN);
        of.due("pad 9 was taken off", x.undo(), 0);
        of.due("pad 9", x.wire(9, 0), 13);
        of.due("the text stays", x.layAll(), 8);
    }

    private void undoesNumbers() {
        WireLoops x = new WireLoops();
        x.lay(3, 4, 60);
        x.takeOff(3);
        x.lay(3, 5, 100);
        of.due("the later number", x.wire(3, 6), 1);
        x.undo();
        x.undo();
        of.due("the earlier number", x.wire(3, 6), 0);
        of.due("the earlier lead", x.wire(3, 0), 4);
        of.due("wires so far", x.count(1), 1);
        x.lay(0, 0, 60);
        of.due("the next number", x.wire(0, 6), 1);
    }

    private void undoAnswers() {
        WireLoops x = new WireLoops();
        of.due("nothing to undo", x.undo(), NONE);
        x.setWidth(11);
        of.due("one", x.undo(), 0);
        of.due("nothing is left", x.undo(), NONE);
        for (int act = 1; act <= 5; act++) {
            x.setWidth(20 + act);
        }
        for (int left = 3; left >= 0; left--) {
            of.due("of four", x.undo(), left);
        }
        of.due("nothing is left of five", x.undo(), NONE);
        of.refused("no history", WireLoops::new, y -> y.undo(), NONE);
        of.refused("no history, but text and snapshot", PromisesOfHistory::keptNew, y -> y.undo(), NONE);
    }

    private static WireLoops keptNew() {
        WireLoops x = Chips.withText("0-0,1-1");
        x.keep();
        return x;
    }

    // ---- promise 15

    private void keeps() {
        WireLoops x = Chips.busy();
        String kept = Chips.state(x);
        x.keep();
        of.same("nothing is changed", Chips.state(x), kept);
        of.due("no act", x.count(12), 4);
        x.lay(1, 0, 200);
        x.takeOff(0);
        x.changeTool();
        x.sample(1, 100);
        x.moveLead(8, 5);
        x.restore();
        of.same("the state that was", Chips.state(x), kept);
    }

    private void keepsAnew() {
        WireLoops x = new WireLoops();
        x.keep();
        x.lay(0, 0, 60);
        x.keep();
        x.lay(1, 1, 60);
        of.due("the later one, behind an act", x.restore(), 1);
        x.undo();
        x.undo();
        x.undo();
        of.due("no wires", x.keep(), 0);
        x.lay(2, 2, 60);
        of.due("the last one, which is less", x.restore(), 0);
    }

    private void keepAnswers() {
        of.due("none", new WireLoops().keep(), 0);
        of.due("six", Chips.busy().keep(), 6);
        of.due("twelve", Chips.full().keep(), 12);
        WireLoops x = Chips.full();
        x.sample(1, 100);
        of.due("none are left", x.keep(), 0);
    }

    // ---- promise 16

    private void restores() {
        WireLoops x = Chips.withWires(7);
        x.pull(4, 100);
        x.changeTool();
        x.setWidth(44);
        x.moveLead(15, 1);
        x.keep();
        String kept = Chips.state(x);
        x.thread();
        x.lay(9, 9, 200);
        x.changeTool();
        x.sample(1, 100);
        x.setWidth(3);
        x.moveLead(15, 2);
        x.restore();
        of.same("restored", Chips.state(x), kept);
        of.due("the tail is lost again", x.lay(8, 8, 60), WireLoops.NO_TAIL);
    }

    private void snapshotStays() {
        WireLoops x = Chips.busy();
        x.restore();
        String kept = Chips.brief(x);
        x.bend(9, 200);
        x.lay(1, 0, 60);
        x.restore();
        of.same("the second time", Chips.brief(x), kept);
        x.bend(9, 200);
        x.undo();
        x.undo();
        x.restore();
        of.same("the third time, behind undo", Chips.brief(x), kept);
        x.sample(1, 100);
        x.restore();
        of.same("the fourth time", Chips.brief(x), kept);
    }

    private void restoreIsAnAct() {
        of.act("restore", Chips::busy, x -> x.restore(), 7);
        of.act("restore of the state that is", PromisesOfHistory::kept, x -> x.restore(), 6);
        of.act("restore with a new chip", PromisesOfHistory::keptNew, x -> x.restore(), 0);
    }

    private static WireLoops kept() {
        WireLoops x = Chips.busy();
        x.keep();
        return x;
    }

    private void restoreAnswers() {
        of.due("seven", Chips.busy().restore(), 7);
        of.due("none", keptNew().restore(), 0);
        of.refused("no snapshot", WireLoops::new, x -> x.restore(), NONE);
        of.refused("no snapshot, but wires", Chips::full, x -> x.restore(), NONE);
        WireLoops x = Chips.full();
        x.keep();
        x.sample(1, 100);
        of.due("twelve", x.restore(), 12);
    }
}
