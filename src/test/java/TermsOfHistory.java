import java.util.function.Supplier;
import java.util.function.ToIntFunction;

/** How long an object is used, and the document's terms of the history, sentence by sentence. */
final class TermsOfHistory {
    private final Sentences of;

    TermsOfHistory(Sentences of) {
        this.of = of;
    }

    void all() {
        String calls = "An object is used for at most 512 calls after it has been made; what later calls answer is"
            + " free.";
        String four = "A history of at most 4 states is kept; when one more is recorded, the oldest one is dropped;"
            + " undo() removes and restores the latest one.";
        String acts = "Each call of a method that is described as an act, and returns no error and not NONE, records"
            + " the state that was before it.";
        String state = "A state is everything but the text, the history and the snapshot.";
        of.section("What it is");
        of.test(calls, this::lastCall);
        of.test(calls, this::mostWires);
        of.section("HISTORY");
        of.test(four, this::fourStates);
        of.test(four, this::statesAnew);
        of.test(acts, this::actsRecord);
        of.test(acts, this::othersDoNotRecord);
        of.test("There is one snapshot, empty at first.", this::oneSnapshot);
        of.test(state, this::partsOfState);
        of.test(state, this::noPartsOfState);
    }

    // ---- What it is

    private void lastCall() {
        WireLoops x = new WireLoops();
        for (int call = 1; call <= 510; call++) {
            of.due("call " + call, x.setWidth(1 + call % 50), call == 1 ? 10 : 1 + (call - 1) % 50);
        }
        of.due("call 511", x.undo(), 3);
        of.due("call 512", x.count(7), 10);
        x = new WireLoops();
        for (int call = 1; call <= 511; call++) {
            of.due("call " + call, x.type('0'), call <= 80 ? call : WireLoops.FULL);
        }
        of.due("call 512", x.clearText(), 80);
    }

    /** As many as can be laid: each is taken off again, each 7th tail is threaded, each 100th tool changed. */
    private void mostWires() {
        WireLoops x = new WireLoops();
        int calls = 0;
        int laid = 0;
        while (calls < 508) {
            of.due("wire " + laid, x.lay(3, 4, 10), 100 - laid % 100 * 2 / 4);
            x.takeOff(3);
            laid++;
            calls += 2;
            if (laid % 7 == 0) {
                of.due("tail behind wire " + laid, x.thread(), laid / 7);
                calls++;
            }
            if (laid % 100 == 0) {
                of.due("tool behind wire " + laid, x.changeTool(), 200);
                calls++;
            }
        }
        of.due("wires so far", x.count(1), laid);
        of.due("more than 200", laid > 200 ? 1 : 0, 1);
    }

    // ---- HISTORY

    private void fourStates() {
        WireLoops x = new WireLoops();
        of.due("no state", x.count(12), 0);
        of.due("undo of none", x.undo(), WireLoops.NONE);
        for (int act = 1; act <= 10; act++) {
            x.setWidth(10 + act);
            of.due("states behind act " + act, x.count(12), Math.min(4, act));
        }
        for (int left = 3; left >= 0; left--) {
            of.due("undo", x.undo(), left);
            of.due("the latest one", x.count(7), 16 + left);
            of.due("removed", x.count(12), left);
        }
        of.due("the oldest ones were dropped", x.undo(), WireLoops.NONE);
        of.due("undo of none changes nothing", x.count(7), 16);
        x = new WireLoops();
        for (int act = 1; act <= 4; act++) {
            x.setWidth(10 + act);
        }
        for (int left = 3; left >= 0; left--) {
            of.due("undo of the four", x.undo(), left);
        }
        of.due("the first one of four is kept", x.count(7), 10);
        for (int act = 1; act <= 5; act++) {
            x.setWidth(20 + act);
        }
        for (int left = 3; left >= 0; left--) {
            of.due("undo of the five", x.undo(), left);
        }
        of.due("the first one of five is dropped", x.count(7), 21);
    }

    private void statesAnew() {
        WireLoops x = new WireLoops();
        for (int width = 1; width <= 6; width++) {
            x.setWidth(width);
        }
        x.undo();
        x.undo();
        of.due("two are left", x.count(12), 2);
        x.setWidth(7);
        of.due("three", x.count(12), 3);
        x.setWidth(8);
        x.setWidth(9);
        of.due("four again", x.count(12), 4);
        int[] widths = {8, 7, 4, 3};
        for (int i = 0; i < 4; i++) {
            of.due("undo", x.undo(), 3 - i);
            of.due("width", x.count(7), widths[i]);
        }
        of.due("undo of none", x.undo(), WireLoops.NONE);
        x.setWidth(5);
        of.due("one anew", x.count(12), 1);
        of.due("undo of it", x.undo(), 0);
        of.due("width ahead of it", x.count(7), 3);
    }

    private void actsRecord() {
        of.act("lay", Chips::busy, x -> x.lay(9, 13, 155), 87);
        of.act("layAll", Chips::busy, x -> x.layAll(), 7);
        of.act("takeOff", Chips::busy, x -> x.takeOff(3), 95);
        of.act("bend", Chips::busy, x -> x.bend(3, 77), 100);
        of.act("moveLead", Chips::busy, x -> x.moveLead(8, 78), 77);
        of.act("setWidth", Chips::busy, x -> x.setWidth(33), 12);
        of.act("changeTool", Chips::busy, x -> x.changeTool(), 6);
        of.act("thread", Chips::spent, x -> x.thread(), 5);
        of.act("pull that holds", Chips::busy, x -> x.pull(0, 50), 90);
        of.act("pull that breaks", Chips::busy, x -> x.pull(0, 100), 1000);
        of.act("pull that changes no strength", Chips::busy, x -> x.pull(0, 9), 95);
        of.act("sample that holds", Chips::busy, x -> x.sample(2, 10), 0);
        of.act("sample that breaks", Chips::busy, x -> x.sample(1, 100), 6);
        of.act("sample that changes no strength", Chips::busy, x -> x.sample(12, 1), 0);
        of.act("restore", Chips::busy, x -> x.restore(), 7);
        of.act("restore of the same state", TermsOfHistory::restored, x -> x.restore(), 7);
        of.act("the first act of all", WireLoops::new, x -> x.lay(0, 0, 60), 95);
    }

    private static WireLoops restored() {
        WireLoops x = Chips.busy();
        x.restore();
        return x;
    }

    private void othersDoNotRecord() {
        recordsNothing("type", x -> x.type('7'));
        recordsNothing("clearText", x -> x.clearText());
        recordsNothing("keep", x -> x.keep());
        for (int what = 0; what < 14; what++) {
            int asked = what;
            changesNothing("count " + what, x -> x.count(asked));
        }
        for (int what = 0; what < 7; what++) {
            int asked = what;
            changesNothing("wire " + what, x -> x.wire(4, asked));
            changesNothing("crossing " + what, x -> x.crossing(0, 3, asked));
            changesNothing("lead " + what, x -> x.lead(5, asked));
            changesNothing("bestHeight " + what, x -> x.bestHeight(0, asked));
        }
        changesNothing("heightAt", x -> x.heightAt(0, 100));
        changesNothing("laysLeft", x -> x.laysLeft(200));
        WireLoops x = Chips.busy();
        of.due("undo", x.undo(), 3);
        of.due("undo does not record", x.count(12), 3);
    }

    private void recordsNothing(String call, ToIntFunction<WireLoops> calling) {
        WireLoops x = Chips.busy();
        calling.applyAsInt(x);
        of.same(call + " records nothing", Chips.past(x).toString(), Chips.past(Chips.busy()).toString());
    }

    private void changesNothing(String call, ToIntFunction<WireLoops> telling) {
        of.refused(call, Chips::busy, telling, telling.applyAsInt(Chips.busy()));
    }

    private void oneSnapshot() {
        WireLoops x = new WireLoops();
        of.due("empty at first", x.restore(), WireLoops.NONE);
        x.lay(0, 0, 60);
        of.due("empty still, as no act takes one", x.restore(), WireLoops.NONE);
        of.due("taken with one wire", x.keep(), 1);
        x.lay(1, 1, 60);
        of.due("taken with two, in place of the other one", x.keep(), 2);
        x.takeOff(0);
        x.takeOff(1);
        of.due("the later one", x.restore(), 2);
        of.due("the later one again", x.restore(), 2);
    }

    private void partsOfState() {
        part("wires, wires so far, wear", Chips::busy, x -> x.lay(9, 13, 155));
        part("wires", Chips::busy, x -> x.takeOff(4));
        part("height", Chips::busy, x -> x.bend(4, 131));
        part("x of a lead", Chips::busy, x -> x.moveLead(8, 78));
        part("width", Chips::busy, x -> x.setWidth(13));
        part("wear, tools changed", Chips::busy, x -> x.changeTool());
        part("strength", Chips::busy, x -> x.pull(0, 10));
        part("wires that broke", Chips::busy, x -> x.pull(0, 100));
        part("the tail, how often it was lost", () -> Chips.withWires(6), x -> x.lay(6, 6, 60));
        part("the tail", Chips::spent, x -> x.thread());
    }

    private void part(String what, Supplier<WireLoops> made, ToIntFunction<WireLoops> act) {
        WireLoops x = made.get();
        String before = Chips.state(x);
        x.keep();
        act.applyAsInt(x);
        of.due(what + ": changed (1)", Chips.state(x).equals(before) ? 0 : 1, 1);
        x.undo();
        of.same(what + ": as ahead of the act", Chips.state(x), before);
        act.applyAsInt(x);
        x.restore();
        of.same(what + ": as in the snapshot", Chips.state(x), before);
    }

    private void noPartsOfState() {
        WireLoops x = new WireLoops();
        x.setWidth(20);
        Chips.type(x, "ab");
        x.keep();
        x.lay(0, 0, 60);
        x.keep();
        of.due("undo", x.undo(), 1);
        Chips.type(x, "c");
        of.due("undo", x.undo(), 0);
        of.due("undo leaves the text", x.count(13), 3);
        of.due("no wires", x.count(0), 0);
        of.due("undo leaves the later snapshot", x.restore(), 1);
        of.due("its width", x.count(7), 20);
        of.due("restore leaves the text", x.count(13), 3);
        of.due("restore leaves the history, but for its own state", x.count(12), 1);
        x.clearText();
        x.setWidth(30);
        of.due("restore of one wire", x.restore(), 1);
        of.due("the text is not in the snapshot", x.count(13), 0);
        of.due("nor is the history", x.count(12), 3);
        x.undo();
        of.due("nor is the text in a state", x.count(13), 0);
        of.due("width ahead of restore", x.count(7), 30);
    }
}
