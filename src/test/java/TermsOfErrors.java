import java.util.function.Supplier;

/** The document's terms of errors, sentence by sentence. */
final class TermsOfErrors {
    private static final int UNKNOWN = WireLoops.UNKNOWN;
    private static final int BAD_VALUE = WireLoops.BAD_VALUE;
    private static final int TAKEN = WireLoops.TAKEN;
    private static final int NONE = WireLoops.NONE;

    private final Sentences of;

    TermsOfErrors(Sentences of) {
        this.of = of;
    }

    void all() {
        String order = "Where several errors can apply, the order of the @return line is the order of the checks.";
        String nothing = "A call that returns an error or NONE changes nothing.";
        of.section("ERRORS");
        of.test("Errors are reported by the constants below.", this::constants);
        of.test(order, this::orderOfLaying);
        of.test(order, this::orderOfOtherActs);
        of.test(order, this::orderOfTelling);
        of.test("NONE is no error; it is returned only if no error applies.", this::noneBehindErrors);
        of.test(nothing, this::errorsChangeNothing);
        of.test(nothing, this::noneChangesNothing);
        of.test(nothing, this::errorsInTellingChangeNothing);
        of.test("The constants: `UNKNOWN = -1`: There is no such pad, lead or wire.", this::unknown);
        of.test("`BAD_VALUE = -2`: Another argument is out of range.", this::badValue);
        of.test("`FULL = -3`: There is no more room.", this::full);
        of.test("`TAKEN = -4`: The pad or the lead has a wire.", this::taken);
        of.test("`NONE = -5`: There is no such thing; not an error.", this::none);
        of.test("`NO_TAIL = -6`: The tail is lost.", this::noTail);
        of.test("`WORN = -7`: The tool is worn out.", this::worn);
    }

    private void constants() {
        int[] constants = {
            WireLoops.UNKNOWN, WireLoops.BAD_VALUE, WireLoops.FULL, WireLoops.TAKEN, WireLoops.NONE, WireLoops.NO_TAIL,
            WireLoops.WORN,
        };
        for (int i = 0; i < constants.length; i++) {
            of.due("constant " + i, constants[i], -1 - i);
        }
    }

    // ---- the order of errors

    /** Each with all errors of the rest of the line behind it. */
    private void orderOfLaying() {
        of.due("pad, height, lead taken, no tail, worn", Chips.spent().lay(12, 15, 201), UNKNOWN);
        of.due("lead, height, pad taken, no tail, worn", Chips.spent().lay(11, 16, 9), UNKNOWN);
        of.due("pad and lead, height, no tail, worn", Chips.spent().lay(-1, -1, 9), UNKNOWN);
        of.due("height, both taken, no tail, worn", Chips.spent().lay(11, 15, 201), BAD_VALUE);
        of.due("pad taken, no tail, worn", Chips.spent().lay(11, 0, 60), TAKEN);
        of.due("lead taken, no tail, worn", Chips.spent().lay(0, 15, 60), TAKEN);
        of.due("no tail, worn", Chips.spent().lay(0, 0, 60), WireLoops.NO_TAIL);
        of.due("worn", threaded().lay(0, 0, 60), WireLoops.WORN);
        of.due("TAKEN and worn", threaded().lay(11, 0, 60), TAKEN);
        of.due("list: fault, taken, no tail, worn", layAll(Chips::spent, "11-15,11-16"), -110);
        of.due("list: taken, no tail, worn", layAll(Chips::spent, "11-0"), TAKEN);
        of.due("list: no tail, worn", layAll(Chips::spent, "0-0"), WireLoops.NO_TAIL);
        of.due("list: worn", layAll(TermsOfErrors::threaded, "0-0"), WireLoops.WORN);
        of.due("list: taken, worn", layAll(TermsOfErrors::threaded, "0-15"), TAKEN);
    }

    private static WireLoops threaded() {
        WireLoops x = Chips.spent();
        x.thread();
        return x;
    }

    private static int layAll(Supplier<WireLoops> made, String text) {
        return Chips.retyped(made, text).get().layAll();
    }

    private void orderOfOtherActs() {
        of.due("bend: pad, height", Chips.busy().bend(1, 201), UNKNOWN);
        of.due("bend: height", Chips.busy().bend(0, 201), BAD_VALUE);
        of.due("moveLead: lead, x", Chips.busy().moveLead(16, 601), UNKNOWN);
        of.due("moveLead: x, taken", Chips.busy().moveLead(5, 601), BAD_VALUE);
        of.due("moveLead: taken, there already", Chips.busy().moveLead(5, 200), TAKEN);
        of.due("moveLead: taken", Chips.busy().moveLead(5, 201), TAKEN);
        of.due("pull: pad, force", Chips.busy().pull(1, 101), UNKNOWN);
        of.due("pull: force", Chips.busy().pull(0, 101), BAD_VALUE);
        of.due("sample: every, no wires", new WireLoops().sample(13, 1), BAD_VALUE);
        of.due("sample: force, no wires", new WireLoops().sample(1, 101), BAD_VALUE);
        of.due("sample: both, no wires", new WireLoops().sample(0, 0), BAD_VALUE);
    }

    private void orderOfTelling() {
        of.due("wire: pad, what", Chips.busy().wire(1, 7), UNKNOWN);
        of.due("wire: what", Chips.busy().wire(0, 7), BAD_VALUE);
        of.due("heightAt: pad, y", Chips.busy().heightAt(1, 201), UNKNOWN);
        of.due("heightAt: y", Chips.busy().heightAt(0, 201), BAD_VALUE);
        of.due("crossing: one, what", Chips.busy().crossing(1, 0, 3), UNKNOWN);
        of.due("crossing: other, what", Chips.busy().crossing(0, 1, 3), UNKNOWN);
        of.due("crossing: the same without a wire, what", Chips.busy().crossing(1, 1, 3), UNKNOWN);
        of.due("crossing: what, the same", Chips.busy().crossing(0, 0, 3), BAD_VALUE);
        of.due("crossing: what, no crossing", Chips.busy().crossing(0, 10, 3), BAD_VALUE);
        of.due("crossing: no crossing", Chips.busy().crossing(0, 10, 2), NONE);
        of.due("lead: lead, what", Chips.busy().lead(16, 2), UNKNOWN);
        of.due("lead: what", Chips.busy().lead(3, 2), BAD_VALUE);
        of.due("bestHeight: pad, what", Chips.busy().bestHeight(1, 2), UNKNOWN);
        of.due("bestHeight: what", Chips.busy().bestHeight(0, 2), BAD_VALUE);
        of.due("laysLeft: height, no tail, worn", Chips.spent().laysLeft(201), BAD_VALUE);
    }

    private void noneBehindErrors() {
        of.due("moveLead: not there, but taken", Chips.busy().moveLead(5, 200), TAKEN);
        of.due("sample: no wires, but every 0", new WireLoops().sample(0, 1), BAD_VALUE);
        of.due("sample: no wires, but force 101", new WireLoops().sample(1, 101), BAD_VALUE);
        of.due("crossing: the same, but without a wire", Chips.busy().crossing(1, 1, 0), UNKNOWN);
        of.due("crossing: the same, but what 3", Chips.busy().crossing(0, 0, 3), BAD_VALUE);
        of.due("wire: without crossings, but no wire", new WireLoops().wire(0, 5), UNKNOWN);
        of.due("lead: without a wire, but no lead", new WireLoops().lead(16, 1), UNKNOWN);
    }

    // ---- what is refused changes nothing

    private void errorsChangeNothing() {
        of.refused("lay, pad", Chips::busy, x -> x.lay(12, 3, 60), UNKNOWN);
        of.refused("lay, lead", Chips::busy, x -> x.lay(1, 16, 60), UNKNOWN);
        of.refused("lay, height", Chips::busy, x -> x.lay(1, 3, 201), BAD_VALUE);
        of.refused("lay, pad taken", Chips::busy, x -> x.lay(0, 3, 60), TAKEN);
        of.refused("lay, lead taken", Chips::busy, x -> x.lay(1, 5, 60), TAKEN);
        of.refused("lay, no tail", Chips::spent, x -> x.lay(0, 0, 60), WireLoops.NO_TAIL);
        of.refused("lay, worn", TermsOfErrors::threaded, x -> x.lay(0, 0, 60), WireLoops.WORN);
        of.refused("layAll, no text", WireLoops::new, x -> x.layAll(), -100);
        refusedList("fault", Chips::busy, "1-3,2-16", -107);
        refusedList("taken", Chips::busy, "1-3,0-4", TAKEN);
        refusedList("no tail at once", Chips::spent, "0-0", WireLoops.NO_TAIL);
        refusedList("worn at once", TermsOfErrors::threaded, "0-0", WireLoops.WORN);
        refusedList("no tail behind the first one", () -> Chips.withWires(6), "6-6:200,7-7", WireLoops.NO_TAIL);
        refusedList("worn behind the first one", () -> Chips.worn(198), "0-0:10,1-1", WireLoops.WORN);
        of.refused("takeOff", Chips::busy, x -> x.takeOff(1), UNKNOWN);
        of.refused("bend, pad", Chips::busy, x -> x.bend(1, 60), UNKNOWN);
        of.refused("bend, height", Chips::busy, x -> x.bend(0, 9), BAD_VALUE);
        of.refused("moveLead, lead", Chips::busy, x -> x.moveLead(16, 60), UNKNOWN);
        of.refused("moveLead, x", Chips::busy, x -> x.moveLead(3, 601), BAD_VALUE);
        of.refused("moveLead, taken", Chips::busy, x -> x.moveLead(5, 60), TAKEN);
        of.refused("setWidth", Chips::busy, x -> x.setWidth(51), BAD_VALUE);
        of.refused("pull, pad", Chips::busy, x -> x.pull(1, 10), UNKNOWN);
        of.refused("pull, force", Chips::busy, x -> x.pull(0, 101), BAD_VALUE);
        of.refused("sample, every", Chips::busy, x -> x.sample(13, 10), BAD_VALUE);
        of.refused("sample, force", Chips::busy, x -> x.sample(1, 101), BAD_VALUE);
        of.refused("type", TermsOfErrors::withFullText, x -> x.type(','), WireLoops.FULL);
    }

    private void refusedList(String what, Supplier<WireLoops> made, String text, int answer) {
        of.refused("layAll, " + what, Chips.retyped(made, text), x -> x.layAll(), answer);
    }

    private static WireLoops withFullText() {
        return Chips.withText("0-0,".repeat(19) + "0-10");
    }

    private void noneChangesNothing() {
        of.refused("bend", Chips::busy, x -> x.bend(0, 100), NONE);
        of.refused("moveLead", Chips::busy, x -> x.moveLead(8, 77), NONE);
        of.refused("setWidth", Chips::busy, x -> x.setWidth(12), NONE);
        of.refused("changeTool", TermsOfErrors::withNewTool, x -> x.changeTool(), NONE);
        of.refused("thread", Chips::busy, x -> x.thread(), NONE);
        of.refused("sample", TermsOfErrors::withoutWires, x -> x.sample(1, 10), NONE);
        of.refused("undo", TermsOfErrors::withoutHistory, x -> x.undo(), NONE);
        of.refused("restore", () -> Chips.withWires(6), x -> x.restore(), NONE);
    }

    private static WireLoops withNewTool() {
        WireLoops x = Chips.busy();
        x.changeTool();
        return x;
    }

    private static WireLoops withoutWires() {
        WireLoops x = Chips.busy();
        x.sample(1, 100);
        return x;
    }

    private static WireLoops withoutHistory() {
        WireLoops x = Chips.busy();
        for (int undone = 0; undone < 4; undone++) {
            x.undo();
        }
        return x;
    }

    private void errorsInTellingChangeNothing() {
        of.refused("wire, pad", Chips::busy, x -> x.wire(1, 0), UNKNOWN);
        of.refused("wire, what", Chips::busy, x -> x.wire(0, 7), BAD_VALUE);
        of.refused("wire, no crossings", Chips::busy, x -> x.wire(10, 5), NONE);
        of.refused("heightAt, pad", Chips::busy, x -> x.heightAt(1, 0), UNKNOWN);
        of.refused("heightAt, y", Chips::busy, x -> x.heightAt(0, 201), BAD_VALUE);
        of.refused("crossing, one", Chips::busy, x -> x.crossing(1, 0, 0), UNKNOWN);
        of.refused("crossing, what", Chips::busy, x -> x.crossing(0, 3, 3), BAD_VALUE);
        of.refused("crossing, none", Chips::busy, x -> x.crossing(0, 10, 0), NONE);
        of.refused("lead, lead", Chips::busy, x -> x.lead(16, 0), UNKNOWN);
        of.refused("lead, what", Chips::busy, x -> x.lead(0, 2), BAD_VALUE);
        of.refused("lead, no wire", Chips::busy, x -> x.lead(0, 1), NONE);
        of.refused("bestHeight, pad", Chips::busy, x -> x.bestHeight(1, 0), UNKNOWN);
        of.refused("bestHeight, what", Chips::busy, x -> x.bestHeight(0, 2), BAD_VALUE);
        of.refused("laysLeft", Chips::busy, x -> x.laysLeft(9), BAD_VALUE);
        of.refused("count", Chips::busy, x -> x.count(14), BAD_VALUE);
        of.refused("count, no weakest", TermsOfErrors::withoutWires, x -> x.count(9), NONE);
    }

    // ---- the constants

    private void unknown() {
        of.due("value", UNKNOWN, -1);
        of.due("no such pad", new WireLoops().lay(12, 0, 60), -1);
        of.due("no such lead", new WireLoops().lay(0, 16, 60), -1);
        of.due("no such wire", new WireLoops().takeOff(0), -1);
    }

    private void badValue() {
        of.due("value", BAD_VALUE, -2);
        of.due("another argument", new WireLoops().lay(0, 0, 201), -2);
    }

    private void full() {
        of.due("value", WireLoops.FULL, -3);
        of.due("no more room", withFullText().type('0'), -3);
    }

    private void taken() {
        of.due("value", TAKEN, -4);
        of.due("the pad", Chips.busy().lay(0, 3, 60), -4);
        of.due("the lead", Chips.busy().lay(1, 5, 60), -4);
    }

    private void none() {
        of.due("value", NONE, -5);
        of.due("no such thing", new WireLoops().undo(), -5);
    }

    private void noTail() {
        of.due("value", WireLoops.NO_TAIL, -6);
        of.due("the tail is lost", Chips.spent().lay(0, 0, 60), -6);
    }

    private void worn() {
        of.due("value", WireLoops.WORN, -7);
        of.due("the tool is worn out", threaded().lay(0, 0, 60), -7);
    }
}
