/** Promises 17 to 23, sentence by sentence: wire, heightAt, crossing, lead, bestHeight, laysLeft, count. */
final class PromisesOfTold {
    private static final int UNKNOWN = WireLoops.UNKNOWN;
    private static final int BAD_VALUE = WireLoops.BAD_VALUE;
    private static final int NONE = WireLoops.NONE;

    private final Sentences of;

    PromisesOfTold(Sentences of) {
        this.of = of;
    }

    void all() {
        wire();
        heightAt();
        crossing();
        lead();
        bestHeight();
        laysLeft();
        of.section("Promise 23");
        String counts = "`int count(int what)`: - `what`: 0 for wires, 1 for wires so far, 2 for crossings, 3 for short"
            + " ones, 4 for the wear, 5 for whether the tail is lost (1, otherwise 0), 6 for how often it was lost so"
            + " far, 7 for the width, 8 for wires that broke so far, 9 for the pad of the weakest wire, of several the"
            + " lowest (NONE without wires), 10 for the sum of all strengths, 11 for tools changed so far, 12 for the"
            + " states in the history, 13 for the length of the text";
        of.test(counts, this::countsOfWires);
        of.test(counts, this::countsOfTool);
        of.test(counts, this::countOfTheWeakest);
        of.test(counts, this::countsOfHistoryAndText);
        of.test("Returns the number; BAD_VALUE.", this::countAnswers);
    }

    private void wire() {
        of.section("Promise 17");
        String what = "`what`: 0 for its lead, 1 for its height, 2 for its strength, 3 for its crossings, 4 for the"
            + " short ones, 5 for the least gap of its crossings (NONE without crossings), 6 for the number by which it"
            + " was laid, from 0, of all wires so far";
        of.test("`int wire(int pad, int what)`: - `pad`: 0 to 11", this::wirePad);
        of.test(what, this::wireWhat);
        of.test(what, this::wireGaps);
        of.test(what, this::wireNumbers);
        of.test("Returns the number; UNKNOWN if the pad has no wire; BAD_VALUE.", this::wireAnswers);
    }

    private void heightAt() {
        of.section("Promise 18");
        of.test("`int heightAt(int pad, int y)`: Tells the height of a wire.", this::heightTold);
        of.test("`pad`: 0 to 11", this::heightAtPad);
        of.test("`y`: 0 to 200", this::heightAtY);
        of.test("Returns the height at y; UNKNOWN if the pad has no wire; BAD_VALUE.", this::heightAtAnswers);
    }

    private void crossing() {
        of.section("Promise 19");
        of.test("`int crossing(int one, int other, int what)`: Tells about a crossing.", this::crossingTold);
        of.test("`one`: 0 to 11: the pad of a wire", this::crossingOne);
        of.test("`other`: 0 to 11: the pad of another wire", this::crossingOther);
        of.test("`what`: 0 for its y, 1 for its gap, 2 for whether it is short (1, otherwise 0)", this::crossingWhat);
        of.test("Returns the number; UNKNOWN if either pad has no wire; BAD_VALUE; NONE if they do not cross (also if"
            + " both are the same).", this::crossingAnswers);
    }

    private void lead() {
        of.section("Promise 20");
        of.test("`int lead(int lead, int what)`: - `lead`: 0 to 15", this::leadLead);
        of.test("`what`: 0 for its x, 1 for the pad of its wire (NONE without one)", this::leadWhat);
        of.test("Returns the number; UNKNOWN; BAD_VALUE.", this::leadAnswers);
    }

    private void bestHeight() {
        of.section("Promise 21");
        String finds = "`int bestHeight(int pad, int what)`: Finds the height, 10 to 200, with which a wire would have"
            + " the fewest short crossings, of several the lowest one.";
        of.test(finds, this::bestOfOneCrossing);
        of.test(finds, this::bestOfSeveral);
        of.test(finds, this::bestAtTheEnds);
        of.test(finds, this::bestIsFoundAlone);
        of.test("`pad`: 0 to 11", this::bestHeightPad);
        of.test("`what`: 0 for the height, 1 for how many short ones it would have then", this::bestHeightWhat);
        of.test("Returns the number; UNKNOWN if the pad has no wire; BAD_VALUE.", this::bestHeightAnswers);
    }

    private void laysLeft() {
        of.section("Promise 22");
        String tells = "`int laysLeft(int height)`: Tells how many more wires of a height could be laid until the tail"
            + " is lost, or the tool is worn out (pads and leads as if there were enough).";
        of.test(tells, this::laysLeftOfTail);
        of.test(tells, this::laysLeftOfTool);
        of.test(tells, this::laysLeftAreLaid);
        of.test("`height`: 10 to 200", this::laysLeftHeight);
        of.test("Returns how many, the last one counted; 0 if none can be laid now; BAD_VALUE.", this::laysLeftAnswers);
    }

    // ---- promise 17

    private void wirePad() {
        for (int pad = 0; pad < 12; pad++) {
            of.due("pad " + pad, Chips.full().wire(pad, 0), pad);
        }
        for (int pad : Chips.beyond(0, 11)) {
            of.refused("pad " + pad, Chips::full, x -> x.wire(pad, 0), UNKNOWN);
        }
    }

    private void wireWhat() {
        int[] pads = {0, 3, 4};
        int[][] due = {
            {5, 100, 95, 2, 1, 0, 0},
            {2, 100, 95, 2, 1, 0, 1},
            {1, 80, 91, 2, 0, 18, 2},
        };
        WireLoops x = Chips.threeCrossing();
        for (int i = 0; i < 3; i++) {
            for (int what = 0; what < 7; what++) {
                of.due("wire(" + pads[i] + ", " + what + ")", x.wire(pads[i], what), due[i][what]);
            }
        }
        for (int what : Chips.beyond(0, 6)) {
            of.refused("what " + what, Chips::busy, y -> y.wire(0, what), BAD_VALUE);
        }
    }

    private void wireGaps() {
        WireLoops x = Chips.middleOfThree(10, 100, 81);
        x.bend(0, 93);
        of.due("gaps 7 and 12: the least", x.wire(0, 5), 7);
        of.due("gaps 7 and 12: short ones", x.wire(0, 4), 1);
        of.due("the gap of 7 alone is short", x.wire(1, 4), 1);
        of.due("the gap of 12 is not", x.wire(2, 4), 0);
        of.due("crossings of 1, with 2 too", x.wire(1, 3), 2);
        of.due("gaps 7 and 19: the least", x.wire(1, 5), 7);
        of.due("gaps 12 and 19: the least", x.wire(2, 5), 12);
        x.bend(0, 100);
        of.due("a gap of 0 is one", x.wire(0, 5), 0);
        x.takeOff(1);
        x.takeOff(2);
        of.due("no crossings", x.wire(0, 3), 0);
        of.due("no short ones", x.wire(0, 4), 0);
        of.due("no gap", x.wire(0, 5), NONE);
    }

    private void wireNumbers() {
        WireLoops x = new WireLoops();
        x.lay(5, 5, 60);
        of.due("the first one", x.wire(5, 6), 0);
        x.takeOff(5);
        x.lay(0, 0, 60);
        of.due("the second one, the first one being gone", x.wire(0, 6), 1);
        x.pull(0, 100);
        x.lay(0, 0, 60);
        of.due("the third one, the second one being broken", x.wire(0, 6), 2);
        of.due("a refused one", x.lay(0, 0, 60), WireLoops.TAKEN);
        x.lay(3, 3, 60);
        of.due("the fourth one", x.wire(3, 6), 3);
        of.due("the third one still", x.wire(0, 6), 2);
    }

    private void wireAnswers() {
        for (int what = 0; what < 7; what++) {
            int asked = what;
            of.refused("no wire, what " + what, Chips::busy, x -> x.wire(1, asked), UNKNOWN);
            of.due("no wires, what " + what, new WireLoops().wire(0, what), UNKNOWN);
        }
        of.due("UNKNOWN ahead of BAD_VALUE", Chips.busy().wire(1, 7), UNKNOWN);
        of.due("UNKNOWN ahead of BAD_VALUE", Chips.busy().wire(12, -1), UNKNOWN);
        of.due("BAD_VALUE", Chips.busy().wire(0, 7), BAD_VALUE);
    }

    // ---- promise 18

    private void heightTold() {
        WireLoops x = new WireLoops();
        x.lay(0, 0, 199);
        x.lay(1, 1, 10);
        int[] places = {0, 1, 50, 99, 100, 101, 150, 199, 200};
        int[] heights = {0, 3, 149, 198, 199, 198, 149, 3, 0};
        for (int i = 0; i < places.length; i++) {
            of.due("199 high, at " + places[i], x.heightAt(0, places[i]), heights[i]);
        }
        of.due("10 high, at 5 (0.98)", x.heightAt(1, 5), 0);
        of.due("10 high, at 6 (1.16)", x.heightAt(1, 6), 1);
        of.due("10 high, at 100", x.heightAt(1, 100), 10);
        x.bend(1, 200);
        of.due("bent to 200, at 100", x.heightAt(1, 100), 200);
        of.due("bent to 200, at 10", x.heightAt(1, 10), 38);
    }

    private void heightAtPad() {
        for (int pad = 0; pad < 12; pad++) {
            of.due("pad " + pad, Chips.full().heightAt(pad, 100), 10);
        }
        for (int pad : Chips.beyond(0, 11)) {
            of.refused("pad " + pad, Chips::full, x -> x.heightAt(pad, 100), UNKNOWN);
        }
    }

    private void heightAtY() {
        WireLoops x = Chips.busy();
        for (int y = 0; y <= 200; y++) {
            of.due("y " + y, x.heightAt(0, y), y * (200 - y) / 100);
        }
        for (int y : Chips.beyond(0, 200)) {
            of.refused("y " + y, Chips::busy, other -> other.heightAt(0, y), BAD_VALUE);
        }
    }

    private void heightAtAnswers() {
        of.due("the height", Chips.busy().heightAt(0, 50), 75);
        of.refused("no wire", Chips::busy, x -> x.heightAt(1, 100), UNKNOWN);
        of.refused("no wires", WireLoops::new, x -> x.heightAt(0, 0), UNKNOWN);
        of.refused("UNKNOWN ahead of BAD_VALUE", Chips::busy, x -> x.heightAt(1, 201), UNKNOWN);
        of.refused("BAD_VALUE", Chips::busy, x -> x.heightAt(0, -1), BAD_VALUE);
    }

    // ---- promise 19

    private void crossingTold() {
        WireLoops x = Chips.threeCrossing();
        // 200 * 60 / 180, 200 * 80 / 240, 200 * 20 / 60: 66 each, where 100 is 88 high and 80 is 70.
        int[][] due = {{0, 3, 66, 0, 1}, {0, 4, 66, 18, 0}, {3, 4, 66, 18, 0}};
        for (int[] row : due) {
            for (int what = 0; what < 3; what++) {
                String call = row[0] + ", " + row[1] + ", " + what;
                of.due("crossing of " + call, x.crossing(row[0], row[1], what), row[2 + what]);
                of.due("crossing back of " + call, x.crossing(row[1], row[0], what), row[2 + what]);
            }
        }
    }

    private void crossingOne() {
        for (int one = 0; one < 11; one++) {
            of.due("one " + one, Chips.pair(one, 600, 11, 0).crossing(one, 11, 2), 1);
        }
        of.due("one 11", Chips.pair(0, 600, 11, 0).crossing(11, 0, 2), 1);
        for (int one : Chips.beyond(0, 11)) {
            of.refused("one " + one, Chips::full, x -> x.crossing(one, 0, 0), UNKNOWN);
        }
    }

    private void crossingOther() {
        for (int other = 1; other < 12; other++) {
            of.due("other " + other, Chips.pair(0, 600, other, 0).crossing(0, other, 2), 1);
        }
        of.due("other 0", Chips.pair(0, 600, 11, 0).crossing(11, 0, 2), 1);
        for (int other : Chips.beyond(0, 11)) {
            of.refused("other " + other, Chips::full, x -> x.crossing(11, other, 0), UNKNOWN);
        }
    }

    private void crossingWhat() {
        WireLoops x = Chips.middle(100, 109);
        of.due("its y", x.crossing(0, 1, 0), 100);
        of.due("its gap", x.crossing(0, 1, 1), 9);
        of.due("short", x.crossing(0, 1, 2), 1);
        of.due("not short", Chips.middle(100, 110).crossing(0, 1, 2), 0);
        for (int what : Chips.beyond(0, 2)) {
            of.refused("what " + what, Chips::busy, y -> y.crossing(0, 3, what), BAD_VALUE);
        }
    }

    private void crossingAnswers() {
        for (int what = 0; what < 3; what++) {
            int asked = what;
            of.refused("one without a wire", Chips::busy, x -> x.crossing(1, 0, asked), UNKNOWN);
            of.refused("other without a wire", Chips::busy, x -> x.crossing(0, 1, asked), UNKNOWN);
            of.due("both without a wire", Chips.busy().crossing(1, 2, what), UNKNOWN);
            of.due("the same without a wire", Chips.busy().crossing(1, 1, what), UNKNOWN);
            of.refused("apart", Chips::busy, x -> x.crossing(0, 7, asked), NONE);
            of.due("apart, back", Chips.busy().crossing(7, 0, what), NONE);
            of.refused("the same", Chips::busy, x -> x.crossing(0, 0, asked), NONE);
            of.due("at the same x", Chips.pair(2, 300, 5, 300).crossing(2, 5, what), NONE);
            of.due("at the same x, back", Chips.pair(2, 300, 5, 300).crossing(5, 2, what), NONE);
        }
        for (int what : Chips.beyond(0, 2)) {
            of.due("UNKNOWN ahead of BAD_VALUE", Chips.busy().crossing(1, 0, what), UNKNOWN);
            of.due("UNKNOWN ahead of BAD_VALUE", Chips.busy().crossing(0, 1, what), UNKNOWN);
            of.due("UNKNOWN of the same ahead of BAD_VALUE", Chips.busy().crossing(1, 1, what), UNKNOWN);
            of.due("BAD_VALUE ahead of NONE", Chips.busy().crossing(0, 7, what), BAD_VALUE);
            of.due("BAD_VALUE ahead of NONE of the same", Chips.busy().crossing(0, 0, what), BAD_VALUE);
        }
    }

    // ---- promise 20

    private void leadLead() {
        WireLoops x = new WireLoops();
        for (int lead = 0; lead < 16; lead++) {
            of.due("lead " + lead, x.lead(lead, 0), 40 * lead);
            of.due("lead " + lead, x.lead(lead, 1), NONE);
        }
        for (int lead : Chips.beyond(0, 15)) {
            of.refused("lead " + lead, Chips::busy, y -> y.lead(lead, 0), UNKNOWN);
            of.refused("lead " + lead, Chips::busy, y -> y.lead(lead, 1), UNKNOWN);
        }
    }

    private void leadWhat() {
        WireLoops x = new WireLoops();
        x.moveLead(3, 555);
        x.lay(8, 3, 60);
        x.lay(0, 15, 60);
        of.due("its x", x.lead(3, 0), 555);
        of.due("its pad", x.lead(3, 1), 8);
        of.due("pad 0 of the last lead", x.lead(15, 1), 0);
        of.due("without a wire", x.lead(0, 1), NONE);
        x.takeOff(8);
        of.due("without its wire", x.lead(3, 1), NONE);
        of.due("its x as ahead of that", x.lead(3, 0), 555);
        for (int what : Chips.beyond(0, 1)) {
            of.refused("what " + what, Chips::busy, y -> y.lead(5, what), BAD_VALUE);
        }
    }

    private void leadAnswers() {
        for (int what : Chips.beyond(0, 1)) {
            of.due("UNKNOWN ahead of BAD_VALUE", Chips.busy().lead(16, what), UNKNOWN);
            of.due("BAD_VALUE, with a wire", Chips.busy().lead(5, what), BAD_VALUE);
            of.due("BAD_VALUE, without one", Chips.busy().lead(0, what), BAD_VALUE);
        }
    }

    // ---- promise 21

    private void bestOfOneCrossing() {
        WireLoops x = new WireLoops();
        x.lay(0, 5, 100);
        of.due("without crossings", x.bestHeight(0, 0), 10);
        of.due("without crossings", x.bestHeight(0, 1), 0);
        x.lay(3, 2, 10);
        // At y 66 the other one is 8 high: 18 is reached at 21 (21 * 66 * 134 * 4 / 40000 = 18).
        of.due("above a low one", x.bestHeight(0, 0), 21);
        of.due("above a low one", x.bestHeight(0, 1), 0);
        of.due("below a high one", x.bestHeight(3, 0), 10);
        x.setWidth(50);
        of.due("50 above a low one", x.bestHeight(0, 0), 66);
        of.due("10 below 59, 50 wide", bestInTheMiddle(50, 59), 109);
        of.due("10 below 60, 50 wide", bestInTheMiddle(50, 60), 10);
        of.due("as high as 10, 1 wide", bestInTheMiddle(1, 10), 11);
        of.due("11, 1 wide", bestInTheMiddle(1, 11), 10);
    }

    private static int bestInTheMiddle(int width, int other) {
        WireLoops x = Chips.middle(100, other);
        x.setWidth(width);
        return x.bestHeight(0, 0);
    }

    private void bestOfSeveral() {
        // 0 crosses 3, 4, 5 at y 24, 28, 32, where they are 12, 43, 80 high. It is 0.4224, 0.4816, 0.5376
        // of its height there: 50 above the first one from 147 on, 50 above the second one from 194 on,
        // 50 below the third one up to 57, and never 50 above it.
        WireLoops x = new WireLoops();
        x.setWidth(50);
        x.lay(0, 15, 60);
        x.lay(3, 4, 30);
        x.lay(4, 3, 90);
        x.lay(5, 2, 150);
        of.due("height", x.bestHeight(0, 0), 194);
        of.due("short ones", x.bestHeight(0, 1), 1);
        of.due("short ones as it is", x.wire(0, 4), 3);
        int best = 0;
        int fewest = 99;
        for (int height = 10; height <= 200; height++) {
            x.bend(0, height);
            if (x.wire(0, 4) < fewest) {
                fewest = x.wire(0, 4);
                best = height;
            }
        }
        of.due("height, tried one by one", best, 194);
        of.due("short ones, tried one by one", fewest, 1);
    }

    private void bestAtTheEnds() {
        best("10, below both", Chips.middleOfThree(1, 11, 12), 10, 0);
        best("11, just between", Chips.middleOfThree(1, 10, 12), 11, 0);
        best("12, above both", Chips.middleOfThree(1, 10, 11), 12, 0);
        best("100, just between", Chips.middleOfThree(50, 150, 50), 100, 0);
        best("105, of 105 alone", Chips.middleOfThree(50, 155, 55), 105, 0);
        best("180, above both", Chips.middleOfThree(50, 130, 40), 180, 0);
        best("200, the highest alone", Chips.middleOfThree(50, 150, 51), 200, 0);
        best("one short everywhere: the lowest one", Chips.middleOfThree(50, 154, 56), 10, 1);
        best("one short everywhere, just not at 200", Chips.middleOfThree(50, 151, 52), 10, 1);
        best("both short up to 108", Chips.middleOfThree(50, 59, 59), 109, 0);
    }

    private void best(String what, WireLoops x, int height, int shortOnes) {
        of.due(what + ": height", x.bestHeight(0, 0), height);
        of.due(what + ": short ones", x.bestHeight(0, 1), shortOnes);
    }

    private void bestIsFoundAlone() {
        of.refused("height", Chips::busy, x -> x.bestHeight(0, 0), 10);
        of.refused("short ones", Chips::busy, x -> x.bestHeight(0, 1), 0);
        of.due("without tail and tool", Chips.spent().bestHeight(11, 0), 10);
        WireLoops x = Chips.middleOfThree(50, 130, 40);
        of.due("the height that it has", x.wire(0, 1), 60);
        x.bestHeight(0, 0);
        of.due("is the same then", x.wire(0, 1), 60);
        x.bend(0, 180);
        of.due("and does not matter", x.bestHeight(0, 0), 180);
        x.takeOff(2);
        of.due("but what it crosses does", x.bestHeight(0, 0), 10);
    }

    private void bestHeightPad() {
        for (int pad = 0; pad < 12; pad++) {
            of.due("pad " + pad, Chips.full().bestHeight(pad, 0), 10);
        }
        for (int pad : Chips.beyond(0, 11)) {
            of.refused("pad " + pad, Chips::full, x -> x.bestHeight(pad, 0), UNKNOWN);
        }
    }

    private void bestHeightWhat() {
        WireLoops x = Chips.middleOfThree(50, 154, 56);
        of.due("the height", x.bestHeight(0, 0), 10);
        of.due("how many short ones", x.bestHeight(0, 1), 1);
        of.due("how many short ones of the others", x.bestHeight(1, 1), 0);
        for (int what : Chips.beyond(0, 1)) {
            of.refused("what " + what, Chips::busy, y -> y.bestHeight(0, what), BAD_VALUE);
        }
    }

    private void bestHeightAnswers() {
        for (int what = 0; what < 2; what++) {
            int asked = what;
            of.refused("no wire", Chips::busy, x -> x.bestHeight(1, asked), UNKNOWN);
            of.due("no wires", new WireLoops().bestHeight(0, what), UNKNOWN);
        }
        for (int what : Chips.beyond(0, 1)) {
            of.due("UNKNOWN ahead of BAD_VALUE", Chips.busy().bestHeight(1, what), UNKNOWN);
            of.due("BAD_VALUE", Chips.busy().bestHeight(0, what), BAD_VALUE);
        }
    }

    // ---- promise 22

    private void laysLeftOfTail() {
        for (int laid = 0; laid <= 21; laid++) {
            WireLoops x = Chips.laidSoFar(laid);
            of.due("behind wire " + laid, x.laysLeft(10), laid > 0 && laid % 7 == 0 ? 0 : 7 - laid % 7);
            x.thread();
            of.due("behind wire " + laid + ", threaded", x.laysLeft(200), 7 - laid % 7);
        }
        of.due("no pad is free", Chips.full().laysLeft(10), 2);
    }

    private void laysLeftOfTool() {
        // 32 were laid for 192, 33 for 198, 34 for 199 and 200: three, two and one are left of the tail.
        of.due("192, by 6", Chips.worn(192).laysLeft(200), 2);
        of.due("192, by 5", Chips.worn(192).laysLeft(199), 2);
        of.due("192, by 4", Chips.worn(192).laysLeft(149), 2);
        of.due("192, by 4 at least", Chips.worn(192).laysLeft(100), 2);
        of.due("192, by 3", Chips.worn(192).laysLeft(99), 3);
        of.due("192, by 2", Chips.worn(192).laysLeft(10), 3);
        of.due("198, by 2", Chips.worn(198).laysLeft(10), 1);
        of.due("198, by 6", Chips.worn(198).laysLeft(200), 1);
        of.due("199, by 2", Chips.worn(199).laysLeft(10), 1);
        of.due("200", Chips.worn(200).laysLeft(10), 0);
        WireLoops x = Chips.worn(200);
        x.changeTool();
        of.due("200, changed", x.laysLeft(10), 1);
        of.due("lost and worn", Chips.spent().laysLeft(10), 0);
    }

    /** As many as it tells can be laid then, and no more. */
    private void laysLeftAreLaid() {
        int[] wears = {0, 150, 171, 177, 182, 188, 190, 193, 195, 196, 197, 198, 199, 200};
        for (int wear : wears) {
            for (int height = 10; height <= 200; height += 10) {
                WireLoops x = Chips.worn(wear);
                int left = x.laysLeft(height);
                for (int laid = 0; laid < left; laid++) {
                    of.due("wear " + wear + ", height " + height, Math.min(0, x.lay(0, 0, height)), 0);
                    x.takeOff(0);
                }
                of.due("wear " + wear + ", height " + height + ", none left", x.laysLeft(height), 0);
                int answer = x.lay(0, 0, height);
                of.due("wear " + wear + ", height " + height + ", one more", answer,
                    x.count(5) == 1 ? WireLoops.NO_TAIL : WireLoops.WORN);
            }
        }
    }

    private void laysLeftHeight() {
        for (int height = 10; height <= 200; height++) {
            of.due("height " + height, new WireLoops().laysLeft(height), 7);
        }
        for (int height : Chips.beyond(10, 200)) {
            of.refused("height " + height, Chips::busy, x -> x.laysLeft(height), BAD_VALUE);
        }
    }

    private void laysLeftAnswers() {
        of.refused("six", Chips::busy, x -> x.laysLeft(200), 6);
        of.due("one, the last one counted", Chips.withWires(6).laysLeft(10), 1);
        of.due("the tail is lost", Chips.withWires(7).laysLeft(10), 0);
        of.due("worn out", Chips.worn(200).laysLeft(200), 0);
        of.due("BAD_VALUE though none can be laid", Chips.spent().laysLeft(201), BAD_VALUE);
        of.due("BAD_VALUE though none can be laid", Chips.spent().laysLeft(9), BAD_VALUE);
    }

    // ---- promise 23

    private void countsOfWires() {
        int[] due = {4, 4, 3, 1, 13, 0, 0, 10, 0, 11, 365, 0, 4, 0};
        WireLoops x = Chips.threeCrossing();
        x.lay(11, 15, 10);
        for (int what = 0; what < due.length; what++) {
            of.due("count(" + what + ")", x.count(what), due[what]);
        }
        x.takeOff(0);
        of.due("wires", x.count(0), 3);
        of.due("wires so far", x.count(1), 4);
        of.due("crossings", x.count(2), 1);
        of.due("short ones", x.count(3), 0);
        of.due("sum", x.count(10), 270);
        x.sample(1, 100);
        int[] rest = {0, 4, 0, 0, 13, 0, 0, 10, 3, NONE, 0, 0, 4, 0};
        for (int what = 0; what < rest.length; what++) {
            of.due("without wires: count(" + what + ")", x.count(what), rest[what]);
        }
    }

    private void countsOfTool() {
        WireLoops x = Chips.busy();
        int[] due = {6, 8, 3, 1, 6, 0, 1, 12, 1, 10, 540, 1, 4, 3};
        for (int what = 0; what < due.length; what++) {
            of.due("busy: count(" + what + ")", x.count(what), due[what]);
        }
        x = Chips.spent();
        int[] spent = {1, 35, 0, 0, 200, 1, 5, 10, 0, 11, 37, 0, 4, 3};
        for (int what = 0; what < spent.length; what++) {
            of.due("spent: count(" + what + ")", x.count(what), spent[what]);
        }
        x.changeTool();
        of.due("no wear", x.count(4), 0);
        of.due("one tool", x.count(11), 1);
        x.thread();
        of.due("not lost", x.count(5), 0);
        of.due("lost as often", x.count(6), 5);
        of.due("broke", x.pull(11, 38), 1000);
        of.due("one broke", x.count(8), 1);
    }

    private void countOfTheWeakest() {
        WireLoops x = new WireLoops();
        of.due("without wires", x.count(9), NONE);
        x.moveLead(5, 100);
        x.moveLead(6, 120);
        x.lay(1, 6, 10);
        of.due("of one", x.count(9), 1);
        x.lay(0, 5, 10);
        of.due("of two as strong as each other, the lowest", x.count(9), 0);
        x.pull(1, 10);
        of.due("the weaker one", x.count(9), 1);
        x.pull(0, 10);
        of.due("of two as strong as each other again", x.count(9), 0);
        x.lay(11, 15, 10);
        of.due("the last pad's", x.count(9), 11);
        x.takeOff(11);
        x.takeOff(0);
        of.due("of one that is left", x.count(9), 1);
        x.takeOff(1);
        of.due("without wires again", x.count(9), NONE);
    }

    private void countsOfHistoryAndText() {
        WireLoops x = new WireLoops();
        for (int act = 1; act <= 5; act++) {
            x.setWidth(10 + act);
            of.due("states behind act " + act, x.count(12), Math.min(4, act));
        }
        x.undo();
        of.due("states behind undo", x.count(12), 3);
        for (int length = 1; length <= 80; length++) {
            x.type('0');
            of.due("length", x.count(13), length);
        }
        x.type('0');
        of.due("length behind the 81st", x.count(13), 80);
        x.clearText();
        of.due("length behind clearText", x.count(13), 0);
    }

    private void countAnswers() {
        for (int what : Chips.beyond(0, 13)) {
            of.refused("what " + what, Chips::busy, x -> x.count(what), BAD_VALUE);
            of.due("what " + what + " with a new chip", new WireLoops().count(what), BAD_VALUE);
        }
        int[] busy = {6, 8, 3, 1, 6, 0, 1, 12, 1, 10, 540, 1, 4, 3};
        for (int what = 0; what < 14; what++) {
            int asked = what;
            of.refused("what " + what, Chips::busy, x -> x.count(asked), busy[what]);
        }
    }
}
