/** The document's terms of pads, leads, wires and crossings, sentence by sentence. */
final class TermsOfWires {
    private final Sentences of;

    TermsOfWires(Sentences of) {
        this.of = of;
    }

    void all() {
        of.section("Terms");
        of.test("All numbers are whole; divisions are rounded down (all that is divided is 0 or more, where nothing"
            + " else is told).", this::roundedDown);
        of.section("PADS, LEADS, WIRES");
        of.test("There are 12 pads, numbered from 0, and 16 leads, numbered from 0.", this::padsAndLeads);
        of.test("A pad p lies at x = 100 + 20 * p, and y = 0; a lead l lies at x = 40 * l (0 to 600), and y = 200, at"
            + " first; each lead can be moved to another x (0 to 600).", this::places);
        of.test("A wire goes straight, as seen from above, from a pad to a lead; a pad has at most one wire, a lead at"
            + " most one.", this::oneWireEach);
        of.test("A wire has a height of its loop, h (10 to 200).", this::heights);
        of.test("There are at most 12 wires, told by their pads.", this::twelveWires);
        of.test("Between pad and lead, at y (0 to 200), the wire is at x = (the pad's x * (200 - y) + the lead's x * y)"
            + " / 200, not rounded, and at the height h * y * (200 - y) * 4 / 40000, rounded down: so h in the middle,"
            + " and 0 at both ends.", this::heightsBetween);
        of.section("CROSSINGS");
        of.test("Two wires cross if the pad of the one is less than that of the other one, and its lead's x is"
            + " greater.", this::cross);
        of.test("They cross at y = 200 * (the way between the pads' x) / (that and the way between the leads' x),"
            + " rounded down.", this::crossingPlaces);
        of.test("The gap of a crossing is how far the heights of both wires at this y are apart.", this::gaps);
        of.test("A crossing is short if its gap is less than the wire's width (1 to 50; 10 at first).",
            this::shortOnes);
        of.test("Wires whose leads lie at the same x touch there: they do not cross.", this::touching);
    }

    // ---- Terms

    private void roundedDown() {
        WireLoops x = new WireLoops();
        x.lay(11, 15, 199);
        of.due("wear, 2 + 199 / 50", x.count(4), 5);
        of.due("strength, 7 / 4", Chips.worn(7).lay(3, 4, 60), 99);
        x = new WireLoops();
        x.moveLead(4, 199);
        of.due("strength, 39 / 20", x.lay(3, 4, 60), 99);
        x = Chips.worn(3);
        x.moveLead(4, 141);
        of.due("strength, 3 / 4 and 19 / 20 each by itself", x.lay(3, 4, 60), 100);
        of.due("pull, 19 / 10", x.pull(3, 19), 99);
        x.bend(3, 199);
        of.due("height, 199 * 99 * 101 * 4 / 40000 (198.98)", x.heightAt(3, 99), 198);
        x = Chips.pair(0, 600, 11, 0);
        of.due("y, 200 * 220 / 820 (53.66)", x.crossing(0, 11, 0), 53);
    }

    // ---- PADS, LEADS, WIRES

    private void padsAndLeads() {
        for (int pad = 0; pad < 12; pad++) {
            of.due("pad " + pad, new WireLoops().lay(pad, 0, 60), 95 - pad);
        }
        for (int lead = 0; lead < 16; lead++) {
            of.due("lead " + lead, new WireLoops().lay(0, lead, 60), 100 - Math.abs(100 - 40 * lead) / 20);
        }
        for (int pad : Chips.beyond(0, 11)) {
            of.due("pad " + pad, new WireLoops().lay(pad, 0, 60), WireLoops.UNKNOWN);
            of.due("wire of pad " + pad, Chips.full().wire(pad, 0), WireLoops.UNKNOWN);
        }
        for (int lead : Chips.beyond(0, 15)) {
            of.due("lead " + lead, new WireLoops().lay(0, lead, 60), WireLoops.UNKNOWN);
            of.due("x of lead " + lead, Chips.full().lead(lead, 0), WireLoops.UNKNOWN);
        }
    }

    private void places() {
        for (int pad = 0; pad < 12; pad++) {
            int x = 100 + 20 * pad;
            of.due("20 left of pad " + pad, strengthWithLeadAt(pad, x - 20), 99);
            of.due("19 left of pad " + pad, strengthWithLeadAt(pad, x - 19), 100);
            of.due("at pad " + pad, strengthWithLeadAt(pad, x), 100);
            of.due("19 right of pad " + pad, strengthWithLeadAt(pad, x + 19), 100);
            of.due("20 right of pad " + pad, strengthWithLeadAt(pad, x + 20), 99);
        }
        for (int lead = 0; lead < 16; lead++) {
            WireLoops x = new WireLoops();
            of.due("at first, lead " + lead, x.lead(lead, 0), 40 * lead);
            of.due("1 left of 0, lead " + lead, x.moveLead(lead, -1), WireLoops.BAD_VALUE);
            of.due("1 right of 600, lead " + lead, x.moveLead(lead, 601), WireLoops.BAD_VALUE);
            of.due("to 1, lead " + lead, x.moveLead(lead, 1), 40 * lead);
            of.due("to 0, lead " + lead, x.moveLead(lead, 0), 1);
            of.due("to 600, lead " + lead, x.moveLead(lead, 600), 0);
            of.due("to 599, lead " + lead, x.moveLead(lead, 599), 600);
            of.due("there, lead " + lead, x.lead(lead, 0), 599);
            of.due("and the next one stays", x.lead((lead + 1) % 16, 0), 40 * ((lead + 1) % 16));
        }
    }

    private static int strengthWithLeadAt(int pad, int place) {
        WireLoops x = new WireLoops();
        x.moveLead(0, place);
        return x.lay(pad, 0, 60);
    }

    private void oneWireEach() {
        WireLoops x = Chips.full();
        for (int pad = 0; pad < 12; pad++) {
            of.due("a second wire of pad " + pad, x.lay(pad, 15, 60), WireLoops.TAKEN);
        }
        for (int lead = 0; lead < 11; lead++) {
            x = Chips.withWires(11);
            of.due("a second wire of lead " + lead, x.lay(11, lead, 60), WireLoops.TAKEN);
        }
        x = Chips.full();
        x.takeOff(0);
        of.due("the last wire's lead", x.lay(0, 11, 60), WireLoops.TAKEN);
        of.due("pad and lead of a wire that was taken off", Math.min(0, x.lay(0, 0, 60)), 0);
        x.pull(5, 100);
        of.due("pad and lead of a wire that broke", x.lay(5, 5, 60), 94);
    }

    private void heights() {
        WireLoops x = new WireLoops();
        of.due("9", x.lay(0, 0, 9), WireLoops.BAD_VALUE);
        of.due("10", x.lay(0, 0, 10), 95);
        of.due("200", x.lay(1, 1, 200), 96);
        of.due("201", x.lay(2, 2, 201), WireLoops.BAD_VALUE);
        of.due("the least", x.wire(0, 1), 10);
        of.due("the greatest", x.wire(1, 1), 200);
        of.due("bent to 9", x.bend(1, 9), WireLoops.BAD_VALUE);
        of.due("bent to 10", x.bend(1, 10), 200);
        of.due("bent to 201", x.bend(0, 201), WireLoops.BAD_VALUE);
        of.due("bent to 200", x.bend(0, 200), 10);
    }

    private void twelveWires() {
        WireLoops x = Chips.full();
        of.due("twelve", x.count(0), 12);
        for (int pad = 0; pad < 12; pad++) {
            of.due("told by pad " + pad, x.wire(pad, 0), pad);
            of.due("a 13th from pad " + pad, x.lay(pad, 12 + pad % 4, 60), WireLoops.TAKEN);
        }
        of.due("a 13th from a pad that there is not", x.lay(12, 12, 60), WireLoops.UNKNOWN);
        of.due("twelve still", x.count(0), 12);
        x.takeOff(4);
        of.due("eleven", x.count(0), 11);
        of.due("another one in its place", Math.min(0, x.lay(4, 12, 60)), 0);
        of.due("twelve again", x.count(0), 12);
    }

    private void heightsBetween() {
        for (int height = 10; height <= 200; height++) {
            WireLoops x = new WireLoops();
            x.lay(11, 0, height);
            of.due("at the pad, " + height, x.heightAt(11, 0), 0);
            of.due("at the lead, " + height, x.heightAt(11, 200), 0);
            of.due("in the middle, " + height, x.heightAt(11, 100), height);
            for (int y = 0; y <= 200; y++) {
                int rest = height * y * (200 - y) - 10000 * x.heightAt(11, y);
                of.due("rounded down: " + height + " at " + y, rest >= 0 && rest < 10000 ? 1 : 0, 1);
            }
        }
        WireLoops x = new WireLoops();
        x.lay(0, 0, 200);
        of.due("y -1", x.heightAt(0, -1), WireLoops.BAD_VALUE);
        of.due("y 1", x.heightAt(0, 1), 3);
        of.due("y 199", x.heightAt(0, 199), 3);
        of.due("y 201", x.heightAt(0, 201), WireLoops.BAD_VALUE);
    }

    // ---- CROSSINGS

    private void cross() {
        crossings("lead's x greater by 1", Chips.pair(2, 101, 5, 100), 2, 5, 1);
        crossings("lead's x the same", Chips.pair(2, 100, 5, 100), 2, 5, 0);
        crossings("lead's x less by 1", Chips.pair(2, 100, 5, 101), 2, 5, 0);
        crossings("laid the other way round, greater", Chips.pair(5, 100, 2, 101), 2, 5, 1);
        crossings("laid the other way round, less", Chips.pair(5, 101, 2, 100), 2, 5, 0);
        crossings("pads and leads at the ends", Chips.pair(0, 600, 11, 0), 0, 11, 1);
        crossings("pads side by side", Chips.pair(10, 600, 11, 599), 10, 11, 1);
        // By the leads' x alone: lead 0 lies at the right of lead 1.
        crossings("leads that changed places", Chips.pair(3, 40, 4, 0), 3, 4, 1);
        WireLoops x = new WireLoops();
        x.lay(0, 0, 60);
        of.due("one wire alone", x.wire(0, 3), 0);
        x = new WireLoops();
        for (int pad = 0; pad < 7; pad++) {
            x.lay(pad, 15 - pad, 60);
        }
        x.thread();
        for (int pad = 7; pad < 12; pad++) {
            x.lay(pad, 15 - pad, 60);
        }
        of.due("each of twelve with each other", x.count(2), 66);
        of.due("each of twelve", x.wire(6, 3), 11);
    }

    private void crossings(String which, WireLoops x, int one, int other, int crossings) {
        of.due(which + ": crossings", x.count(2), crossings);
        of.due(which + ": crossings of the one", x.wire(one, 3), crossings);
        of.due(which + ": crossings of the other one", x.wire(other, 3), crossings);
        of.due(which + ": crossing", x.crossing(one, other, 2), crossings == 1 ? 1 : WireLoops.NONE);
        of.due(which + ": crossing back", x.crossing(other, one, 2), crossings == 1 ? 1 : WireLoops.NONE);
    }

    private void crossingPlaces() {
        places("the least y, 200 * 20 / 620 (6.45)", 0, 600, 1, 0, 6);
        places("the greatest y, 200 * 220 / 221 (199.1)", 0, 1, 11, 0, 199);
        places("the middle, 200 * 20 / 40", 5, 320, 6, 300, 100);
        places("just below the middle, 200 * 20 / 41 (97.56)", 5, 321, 6, 300, 97);
        places("just above the middle, 200 * 20 / 39 (102.56)", 5, 319, 6, 300, 102);
        places("all across, 200 * 220 / 820 (53.66)", 0, 600, 11, 0, 53);
        places("without a rest, 200 * 60 / 200", 2, 240, 5, 100, 60);
        places("almost one more, 200 * 60 / 201 (59.7)", 2, 241, 5, 100, 59);
    }

    private void places(String which, int one, int xOfOne, int other, int xOfOther, int y) {
        of.due(which, Chips.pair(one, xOfOne, other, xOfOther).crossing(one, other, 0), y);
        of.due(which + ", from the other one", Chips.pair(one, xOfOne, other, xOfOther).crossing(other, one, 0), y);
    }

    private void gaps() {
        gap(100, 100, 0);
        gap(100, 101, 1);
        gap(101, 100, 1);
        gap(10, 200, 190);
        gap(200, 10, 190);
        // At y 53, where the wires are 77.9 and 124.7 high: each height is rounded by itself.
        WireLoops x = Chips.pair(0, 600, 11, 0);
        x.bend(0, 100);
        x.bend(11, 160);
        of.due("at y 53", x.crossing(0, 11, 1), 47);
        // At y 190, where they are 38 and 1.9 high.
        x = Chips.pair(10, 101, 11, 100);
        x.bend(10, 200);
        x.bend(11, 10);
        of.due("near the leads", x.crossing(10, 11, 1), 37);
    }

    private void gap(int height, int other, int gap) {
        WireLoops x = Chips.middle(height, other);
        of.due("gap of " + height + " and " + other, x.crossing(0, 1, 1), gap);
        of.due("gap of " + height + " and " + other + ", back", x.crossing(1, 0, 1), gap);
        of.due("least gap of " + height + " and " + other, x.wire(0, 5), gap);
        of.due("least gap of " + height + " and " + other + ", back", x.wire(1, 5), gap);
    }

    private void shortOnes() {
        of.due("10 at first", new WireLoops().count(7), 10);
        shortAt(10, 9, 1);
        shortAt(10, 10, 0);
        shortAt(10, 11, 0);
        shortAt(1, 0, 1);
        shortAt(1, 1, 0);
        shortAt(50, 49, 1);
        shortAt(50, 50, 0);
        WireLoops x = new WireLoops();
        of.due("width 0", x.setWidth(0), WireLoops.BAD_VALUE);
        of.due("width 1", x.setWidth(1), 10);
        of.due("width 50", x.setWidth(50), 1);
        of.due("width 51", x.setWidth(51), WireLoops.BAD_VALUE);
    }

    private void shortAt(int width, int gap, int due) {
        for (int sign = -1; sign <= 1; sign += 2) {
            WireLoops x = Chips.middle(100, 100 + sign * gap);
            x.setWidth(width);
            String which = "width " + width + ", gap " + sign * gap;
            of.due(which, x.crossing(0, 1, 2), due);
            of.due(which + ", back", x.crossing(1, 0, 2), due);
            of.due(which + ", of the wire", x.wire(0, 4), due);
            of.due(which + ", of the other wire", x.wire(1, 4), due);
            of.due(which + ", of all", x.count(3), due);
        }
    }

    private void touching() {
        for (int x = 0; x <= 600; x += 300) {
            WireLoops touching = Chips.pair(0, x, 11, x);
            crossings("both at " + x, touching, 0, 11, 0);
            of.due("no gap", touching.wire(0, 5), WireLoops.NONE);
            of.due("no short one", touching.count(3), 0);
            of.due("no short one of the wire", touching.wire(11, 4), 0);
            of.due("its best height", touching.bestHeight(0, 0), 10);
        }
        WireLoops x = Chips.pair(0, 300, 11, 300);
        x.moveLead(2, 300);
        x.lay(5, 2, 60);
        of.due("three at the same x", x.count(2), 0);
        x.moveLead(3, 299);
        x.lay(6, 3, 60);
        of.due("one at the left of them, from between", x.count(2), 2);
    }
}
