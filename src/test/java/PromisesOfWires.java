/** Promises 1, 2 and 4 to 7, sentence by sentence: a new object, lay, takeOff, bend, moveLead, setWidth. */
final class PromisesOfWires {
    private static final int UNKNOWN = WireLoops.UNKNOWN;
    private static final int BAD_VALUE = WireLoops.BAD_VALUE;
    private static final int TAKEN = WireLoops.TAKEN;
    private static final int NONE = WireLoops.NONE;

    private final Sentences of;

    PromisesOfWires(Sentences of) {
        this.of = of;
    }

    void all() {
        of.section("Promise 1");
        of.test("`WireLoops()`: Creates a chip without wires, with a new tool and a tail.", this::newObject);
        lay();
        takeOff();
        bend();
        moveLead();
        setWidth();
    }

    private void lay() {
        of.section("Promise 2");
        of.test("`int lay(int pad, int lead, int height)`: Lays a wire.", this::lays);
        of.test("This is an act.", this::layIsAnAct);
        of.test("`pad`: 0 to 11", this::layPad);
        of.test("`lead`: 0 to 15", this::layLead);
        of.test("`height`: 10 to 200", this::layHeight);
        of.test("Returns its strength; UNKNOWN (pad or lead); BAD_VALUE; TAKEN; NO_TAIL; WORN.", this::layAnswers);
    }

    private void takeOff() {
        of.section("Promise 4");
        of.test("`int takeOff(int pad)`: Takes a wire off.", this::takesOff);
        of.test("This is an act.", this::takeOffIsAnAct);
        of.test("`pad`: 0 to 11", this::takeOffPad);
        of.test("Returns its strength; UNKNOWN if the pad has none.", this::takeOffAnswers);
    }

    private void bend() {
        of.section("Promise 5");
        of.test("`int bend(int pad, int height)`: Gives a wire another height, without laying it anew.", this::bends);
        of.test("This is an act.", this::bendIsAnAct);
        of.test("`pad`: 0 to 11", this::bendPad);
        of.test("`height`: 10 to 200", this::bendHeight);
        of.test("Returns the previous one; UNKNOWN if the pad has none; BAD_VALUE; NONE if it is so already.",
            this::bendAnswers);
    }

    private void moveLead() {
        of.section("Promise 6");
        of.test("`int moveLead(int lead, int x)`: Moves a lead.", this::movesLead);
        of.test("This is an act.", this::moveLeadIsAnAct);
        of.test("`lead`: 0 to 15", this::moveLeadLead);
        of.test("`x`: 0 to 600", this::moveLeadX);
        of.test("Returns the previous x; UNKNOWN; BAD_VALUE; TAKEN if it has a wire; NONE if it is there already.",
            this::moveLeadAnswers);
    }

    private void setWidth() {
        of.section("Promise 7");
        of.test("`int setWidth(int width)`: Sets the width of the wire.", this::setsWidth);
        of.test("This is an act.", this::setWidthIsAnAct);
        of.test("`width`: 1 to 50", this::setWidthWidth);
        of.test("Returns the previous one; BAD_VALUE; NONE if it is so already.", this::setWidthAnswers);
    }

    // ---- promise 1

    private void newObject() {
        int[] counts = {0, 0, 0, 0, 0, 0, 0, 10, 0, NONE, 0, 0, 0, 0};
        WireLoops x = new WireLoops();
        for (int what = 0; what < counts.length; what++) {
            of.due("count(" + what + ")", x.count(what), counts[what]);
        }
        for (int pad = 0; pad < 12; pad++) {
            of.due("no wire from pad " + pad, x.wire(pad, 0), UNKNOWN);
        }
        for (int lead = 0; lead < 16; lead++) {
            of.due("no wire to lead " + lead, x.lead(lead, 1), NONE);
            of.due("x of lead " + lead, x.lead(lead, 0), 40 * lead);
        }
        of.due("a new tool", x.changeTool(), NONE);
        of.due("a tail", x.thread(), NONE);
        of.due("seven to lay", x.laysLeft(200), 7);
        of.due("no state", x.undo(), NONE);
        of.due("no snapshot", x.restore(), NONE);
        of.due("no text", x.clearText(), 0);
        String fresh = Chips.whole(WireLoops::new);
        Chips.busy();
        of.same("a second object has nothing of the first one", Chips.whole(WireLoops::new), fresh);
    }

    // ---- promise 2

    private void lays() {
        WireLoops x = new WireLoops();
        x.lay(3, 7, 123);
        int[] due = {7, 123, 94, 0, 0, NONE, 0};
        for (int what = 0; what < due.length; what++) {
            of.due("wire(3, " + what + ")", x.wire(3, what), due[what]);
        }
        of.due("at its lead", x.lead(7, 1), 3);
        of.due("wires", x.count(0), 1);
        of.due("wires so far", x.count(1), 1);
        of.due("wear", x.count(4), 4);
        x.lay(4, 6, 60);
        of.due("the second one's number", x.wire(4, 6), 1);
        of.due("the first one's number", x.wire(3, 6), 0);
        of.due("wear of both", x.count(4), 7);
    }

    private void layIsAnAct() {
        of.act("lay", Chips::busy, x -> x.lay(1, 3, 60), 99);
        of.act("lay that loses the tail", () -> Chips.withWires(6), x -> x.lay(6, 6, 60), 96);
        of.act("lay of the first wire", WireLoops::new, x -> x.lay(0, 0, 60), 95);
        of.act("lay that fills the last pad", () -> Chips.withWires(11), x -> x.lay(11, 15, 60), 81);
    }

    private void layPad() {
        for (int pad = 0; pad < 12; pad++) {
            WireLoops x = new WireLoops();
            of.due("pad " + pad, x.lay(pad, 15, 60), 100 - (500 - 20 * pad) / 20);
            of.due("at its lead", x.lead(15, 1), pad);
        }
        for (int pad : Chips.beyond(0, 11)) {
            of.refused("pad " + pad, Chips::busy, x -> x.lay(pad, 3, 60), UNKNOWN);
        }
    }

    private void layLead() {
        for (int lead = 0; lead < 16; lead++) {
            WireLoops x = new WireLoops();
            of.due("lead " + lead, x.lay(11, lead, 60), 100 - Math.abs(320 - 40 * lead) / 20);
            of.due("its lead", x.wire(11, 0), lead);
        }
        for (int lead : Chips.beyond(0, 15)) {
            of.refused("lead " + lead, Chips::busy, x -> x.lay(1, lead, 60), UNKNOWN);
        }
    }

    private void layHeight() {
        for (int height = 10; height <= 200; height++) {
            WireLoops x = new WireLoops();
            of.due("height " + height, x.lay(3, 4, height), 100);
            of.due("its height", x.wire(3, 1), height);
        }
        for (int height : Chips.beyond(10, 200)) {
            of.refused("height " + height, Chips::busy, x -> x.lay(1, 3, height), BAD_VALUE);
        }
        of.refused("height 0", Chips::busy, x -> x.lay(1, 3, 0), BAD_VALUE);
    }

    private void layAnswers() {
        of.due("strength, straight", new WireLoops().lay(3, 4, 60), 100);
        of.due("strength, 500 to the right", new WireLoops().lay(0, 15, 60), 75);
        of.due("strength, 320 to the left", new WireLoops().lay(11, 0, 60), 84);
        of.due("strength, 40 worn", Chips.worn(40).lay(3, 4, 60), 90);
        of.refused("UNKNOWN ahead of all", Chips::spent, x -> x.lay(12, 15, 201), UNKNOWN);
        of.refused("UNKNOWN of the lead ahead of all", Chips::spent, x -> x.lay(11, 16, 9), UNKNOWN);
        of.refused("BAD_VALUE ahead of TAKEN", Chips::spent, x -> x.lay(11, 15, 201), BAD_VALUE);
        of.refused("BAD_VALUE ahead of NO_TAIL", Chips::spent, x -> x.lay(0, 0, 9), BAD_VALUE);
        of.refused("TAKEN (both) ahead of NO_TAIL", Chips::spent, x -> x.lay(11, 15, 60), TAKEN);
        of.refused("TAKEN (pad) ahead of NO_TAIL", Chips::spent, x -> x.lay(11, 0, 60), TAKEN);
        of.refused("TAKEN (lead) ahead of NO_TAIL", Chips::spent, x -> x.lay(0, 15, 60), TAKEN);
        of.refused("NO_TAIL ahead of WORN", Chips::spent, x -> x.lay(0, 0, 60), WireLoops.NO_TAIL);
        of.refused("WORN", () -> Chips.worn(200), x -> x.lay(0, 0, 60), WireLoops.WORN);
        of.refused("TAKEN ahead of WORN", PromisesOfWires::wornWithWire, x -> x.lay(0, 15, 60), TAKEN);
        WireLoops x = Chips.spent();
        x.thread();
        of.due("WORN is left", x.lay(0, 0, 60), WireLoops.WORN);
        x.changeTool();
        of.due("nothing is left", x.lay(0, 0, 60), 95);
    }

    private static WireLoops wornWithWire() {
        WireLoops x = Chips.worn(199);
        x.lay(11, 15, 60);
        x.thread();
        return x;
    }

    // ---- promise 4

    private void takesOff() {
        WireLoops x = Chips.busy();
        x.takeOff(3);
        of.due("gone", x.wire(3, 0), UNKNOWN);
        of.due("its lead is free", x.lead(2, 1), NONE);
        of.due("one less", x.count(0), 5);
        of.due("so far as many", x.count(1), 8);
        of.due("no more broke", x.count(8), 1);
        of.due("the wear stays", x.count(4), 6);
        of.due("no crossing", x.crossing(0, 3, 0), UNKNOWN);
        of.due("the others' crossings", x.wire(0, 3), 1);
        x.lay(3, 2, 77);
        of.due("a new one has its own number", x.wire(3, 6), 8);
        x = Chips.full();
        for (int pad = 0; pad < 12; pad++) {
            x.takeOff(pad);
            of.due("left", x.count(0), 11 - pad);
        }
    }

    private void takeOffIsAnAct() {
        of.act("takeOff", Chips::busy, x -> x.takeOff(0), 95);
        of.act("takeOff of the last wire", Chips::spent, x -> x.takeOff(11), 37);
    }

    private void takeOffPad() {
        for (int pad = 0; pad < 12; pad++) {
            of.due("pad " + pad, Chips.full().takeOff(pad), strengthOfFull(pad));
        }
        for (int pad : Chips.beyond(0, 11)) {
            of.refused("pad " + pad, Chips::full, x -> x.takeOff(pad), UNKNOWN);
        }
    }

    /** Full's wires go from 100 + 20 * pad to 40 * pad, the tool being worn by 2 for each pad ahead of it. */
    private static int strengthOfFull(int pad) {
        return 100 - 2 * pad / 4 - Math.abs(100 - 20 * pad) / 20;
    }

    private void takeOffAnswers() {
        WireLoops x = Chips.busy();
        x.pull(0, 50);
        of.due("its strength, as it is weakened", x.takeOff(0), 90);
        of.due("no second time", x.takeOff(0), UNKNOWN);
        of.refused("no wire", Chips::busy, y -> y.takeOff(1), UNKNOWN);
        of.refused("no wires", WireLoops::new, y -> y.takeOff(0), UNKNOWN);
    }

    // ---- promise 5

    private void bends() {
        WireLoops x = Chips.busy();
        x.bend(0, 200);
        int[] due = {5, 200, 95, 2, 0, 62, 0};
        for (int what = 0; what < due.length; what++) {
            of.due("wire(0, " + what + ")", x.wire(0, what), due[what]);
        }
        of.due("height in the middle", x.heightAt(0, 100), 200);
        of.due("no wear", x.count(4), 6);
        of.due("wires so far", x.count(1), 8);
        of.due("the others' height", x.wire(3, 1), 100);
        x = Chips.spent();
        of.due("without tail and tool", x.bend(11, 60), 100);
    }

    private void bendIsAnAct() {
        of.act("bend", Chips::busy, x -> x.bend(0, 101), 100);
        of.act("bend of the last pad's wire", Chips::spent, x -> x.bend(11, 10), 100);
    }

    private void bendPad() {
        for (int pad = 0; pad < 12; pad++) {
            WireLoops x = Chips.full();
            of.due("pad " + pad, x.bend(pad, 99), 10);
            for (int other = 0; other < 12; other++) {
                of.due("height of " + other, x.wire(other, 1), other == pad ? 99 : 10);
            }
        }
        for (int pad : Chips.beyond(0, 11)) {
            of.refused("pad " + pad, Chips::full, x -> x.bend(pad, 99), UNKNOWN);
        }
    }

    private void bendHeight() {
        WireLoops x = Chips.busy();
        int previous = 100;
        for (int height = 10; height <= 200; height++) {
            of.due("height " + height, x.bend(0, height), height == previous ? NONE : previous);
            previous = height;
        }
        of.due("the greatest", x.wire(0, 1), 200);
        for (int height : Chips.beyond(10, 200)) {
            of.refused("height " + height, Chips::busy, y -> y.bend(0, height), BAD_VALUE);
        }
        of.refused("height 0", Chips::busy, y -> y.bend(0, 0), BAD_VALUE);
    }

    private void bendAnswers() {
        WireLoops x = Chips.busy();
        of.due("the previous one, 100", x.bend(0, 99), 100);
        of.due("the previous one, 99", x.bend(0, 100), 99);
        of.due("so already", x.bend(0, 100), NONE);
        of.refused("UNKNOWN ahead of BAD_VALUE", Chips::busy, y -> y.bend(1, 201), UNKNOWN);
        of.refused("BAD_VALUE", Chips::busy, y -> y.bend(0, 201), BAD_VALUE);
        of.refused("NONE", Chips::busy, y -> y.bend(0, 100), NONE);
        of.refused("no wires", WireLoops::new, y -> y.bend(0, 100), UNKNOWN);
    }

    // ---- promise 6

    private void movesLead() {
        WireLoops x = Chips.busy();
        x.moveLead(3, 333);
        for (int lead = 0; lead < 16; lead++) {
            of.due("lead " + lead, x.lead(lead, 0), lead == 3 ? 333 : lead == 8 ? 77 : 40 * lead);
        }
        of.due("a wire to where it lies now", x.lay(1, 3, 60), 89);
        of.due("which crosses those of 3 and 4", x.wire(1, 3), 2);
        x.takeOff(1);
        of.due("it stays as the wire goes", x.lead(3, 0), 333);
        of.due("and can be moved again", x.moveLead(3, 120), 333);
        of.due("to where another one lies", x.moveLead(3, 160), 120);
    }

    private void moveLeadIsAnAct() {
        of.act("moveLead", Chips::busy, x -> x.moveLead(0, 1), 0);
        of.act("moveLead back", Chips::busy, x -> x.moveLead(8, 320), 77);
    }

    private void moveLeadLead() {
        for (int lead = 0; lead < 16; lead++) {
            WireLoops x = new WireLoops();
            of.due("lead " + lead, x.moveLead(lead, 555), 40 * lead);
            for (int other = 0; other < 16; other++) {
                of.due("x of " + other, x.lead(other, 0), other == lead ? 555 : 40 * other);
            }
        }
        for (int lead : Chips.beyond(0, 15)) {
            of.refused("lead " + lead, Chips::busy, x -> x.moveLead(lead, 555), UNKNOWN);
        }
    }

    private void moveLeadX() {
        int[] places = {0, 1, 599, 600};
        WireLoops x = new WireLoops();
        int previous = 120;
        for (int place : places) {
            of.due("x " + place, x.moveLead(3, place), previous);
            of.due("there", x.lead(3, 0), place);
            previous = place;
        }
        for (int place : Chips.beyond(0, 600)) {
            of.refused("x " + place, Chips::busy, y -> y.moveLead(3, place), BAD_VALUE);
        }
    }

    private void moveLeadAnswers() {
        WireLoops x = new WireLoops();
        of.due("the previous x", x.moveLead(15, 0), 600);
        of.due("the previous x, 0", x.moveLead(15, 600), 0);
        of.due("there already", x.moveLead(15, 600), NONE);
        of.due("there already at first", x.moveLead(0, 0), NONE);
        of.refused("UNKNOWN ahead of BAD_VALUE", Chips::busy, y -> y.moveLead(16, 601), UNKNOWN);
        of.refused("BAD_VALUE ahead of TAKEN", Chips::busy, y -> y.moveLead(5, -1), BAD_VALUE);
        of.refused("TAKEN", Chips::busy, y -> y.moveLead(5, 201), TAKEN);
        of.refused("TAKEN ahead of NONE", Chips::busy, y -> y.moveLead(5, 200), TAKEN);
        of.refused("NONE", Chips::busy, y -> y.moveLead(3, 120), NONE);
        x = Chips.full();
        for (int lead = 0; lead < 16; lead++) {
            of.due("lead " + lead + " of 12 with wires", x.moveLead(lead, 1), lead < 12 ? TAKEN : 40 * lead);
        }
        x.pull(0, 100);
        of.due("free as its wire broke", x.moveLead(0, 1), 0);
    }

    // ---- promise 7

    private void setsWidth() {
        WireLoops x = Chips.threeCrossing();
        of.due("short with 10", x.count(3), 1);
        x.setWidth(19);
        of.due("width", x.count(7), 19);
        of.due("short with 19", x.count(3), 3);
        x.setWidth(18);
        of.due("short with 18", x.count(3), 1);
    }

    private void setWidthIsAnAct() {
        of.act("setWidth", Chips::busy, x -> x.setWidth(11), 12);
    }

    private void setWidthWidth() {
        WireLoops x = new WireLoops();
        int previous = 10;
        for (int width = 1; width <= 50; width++) {
            of.due("width " + width, x.setWidth(width), width == previous ? NONE : previous);
            of.due("then", x.count(7), width);
            previous = width;
        }
        for (int width : Chips.beyond(1, 50)) {
            of.refused("width " + width, Chips::busy, y -> y.setWidth(width), BAD_VALUE);
        }
    }

    private void setWidthAnswers() {
        WireLoops x = new WireLoops();
        of.due("so at first", x.setWidth(10), NONE);
        of.due("the previous one", x.setWidth(1), 10);
        of.due("the previous one, 1", x.setWidth(50), 1);
        of.due("the previous one, 50", x.setWidth(10), 50);
        of.refused("BAD_VALUE", Chips::busy, y -> y.setWidth(0), BAD_VALUE);
        of.refused("NONE", Chips::busy, y -> y.setWidth(12), NONE);
    }
}
