/** Promises 17 to 23: wire, heightAt, crossing, lead, bestHeight, laysLeft, count. */
public final class ToldTest {
    private static final Check CHECK = new Check("ToldTest");

    public static void main(String[] args) {
        wireWrong();
        wireTells();
        heightAt();
        heightAtEverywhere();
        heightAtWrong();
        crossingTells();
        crossingAtY();
        crossingNone();
        crossingWrong();
        lead();
        bestHeightTells();
        bestHeightOfSeveral();
        bestHeightAtTheEnds();
        bestHeightWrong();
        laysLeft();
        laysLeftOfTool();
        countOfWires();
        countOfTool();
        countWrong();
        tellingIsNoAct();
        CHECK.end();
    }

    private static void due(String call, int got, int want) {
        CHECK.due(call, got, want);
    }

    private static final int[] WRONG = {-1, 16, Integer.MIN_VALUE, Integer.MAX_VALUE};

    private static void wireWrong() {
        WireLoops x = new WireLoops();
        x.lay(3, 4, 60);
        for (int wrong : WRONG) {
            due("wire of pad " + wrong, x.wire(wrong, 0), WireLoops.UNKNOWN);
            due("wire, what " + wrong, x.wire(3, wrong), WireLoops.BAD_VALUE);
            due("UNKNOWN ahead of BAD_VALUE", x.wire(2, wrong), WireLoops.UNKNOWN);
        }
        due("pad 12", x.wire(12, 0), WireLoops.UNKNOWN);
        due("what 7", x.wire(3, 7), WireLoops.BAD_VALUE);
        for (int what = 0; what < 7; what++) {
            due("no wire", x.wire(2, what), WireLoops.UNKNOWN);
        }
    }

    /** Pads 0, 3, 4 at 100, 160, 180 go to 200, 80, 40: each crosses each other. */
    private static WireLoops threeCrossing() {
        WireLoops x = new WireLoops();
        x.lay(0, 5, 100);
        x.lay(3, 2, 100);
        x.lay(4, 1, 80);
        return x;
    }

    private static void wireTells() {
        WireLoops x = threeCrossing();
        int[][] due = {
            {5, 100, 95, 2, 1, 0, 0},
            {2, 100, 95, 2, 1, 0, 1},
            {1, 80, 91, 2, 0, 18, 2},
        };
        int[] pads = {0, 3, 4};
        for (int i = 0; i < 3; i++) {
            for (int what = 0; what < 7; what++) {
                due("wire(" + pads[i] + ", " + what + ")", x.wire(pads[i], what), due[i][what]);
            }
        }
        x.lay(11, 15, 10);
        due("no crossings", x.wire(11, 3), 0);
        due("no short ones", x.wire(11, 4), 0);
        due("no gap", x.wire(11, 5), WireLoops.NONE);
        x.takeOff(0);
        x.lay(0, 0, 10);
        due("laid as the fifth", x.wire(0, 6), 4);
        due("the one at its left crosses none", x.wire(0, 3), 0);
    }

    private static void heightAt() {
        WireLoops x = new WireLoops();
        x.lay(0, 0, 199);
        x.lay(1, 1, 10);
        due("at the pad", x.heightAt(0, 0), 0);
        due("at the lead", x.heightAt(0, 200), 0);
        due("in the middle", x.heightAt(0, 100), 199);
        due("y 1", x.heightAt(0, 1), 3);
        due("y 199", x.heightAt(0, 199), 3);
        due("y 99", x.heightAt(0, 99), 198);
        due("y 50", x.heightAt(0, 50), 149);
        due("y 150", x.heightAt(0, 150), 149);
        due("low, y 5", x.heightAt(1, 5), 0);
        due("low, y 6", x.heightAt(1, 6), 1);
        due("low, y 100", x.heightAt(1, 100), 10);
        x.bend(1, 200);
        due("bent, y 100", x.heightAt(1, 100), 200);
        due("bent, y 10", x.heightAt(1, 10), 38);
    }

    private static void heightAtEverywhere() {
        for (int height = 10; height <= 200; height++) {
            WireLoops x = new WireLoops();
            x.lay(11, 0, height);
            for (int y = 0; y <= 200; y++) {
                int rest = height * y * (200 - y) - 10000 * x.heightAt(11, y);
                due("rounded down: " + height + " at " + y, rest >= 0 && rest < 10000 ? 1 : 0, 1);
            }
        }
    }

    private static void heightAtWrong() {
        WireLoops x = new WireLoops();
        x.lay(0, 0, 100);
        due("y -1", x.heightAt(0, -1), WireLoops.BAD_VALUE);
        due("y 201", x.heightAt(0, 201), WireLoops.BAD_VALUE);
        due("y least", x.heightAt(0, Integer.MIN_VALUE), WireLoops.BAD_VALUE);
        due("no wire", x.heightAt(1, 100), WireLoops.UNKNOWN);
        due("UNKNOWN ahead of BAD_VALUE", x.heightAt(1, 201), WireLoops.UNKNOWN);
        due("no pad", x.heightAt(-1, 100), WireLoops.UNKNOWN);
        due("no pad", x.heightAt(12, 100), WireLoops.UNKNOWN);
    }

    private static void crossingTells() {
        WireLoops x = threeCrossing();
        // 200 * 60 / 180 = 66; both are 88 high there.
        due("y of 0, 3", x.crossing(0, 3, 0), 66);
        due("gap of 0, 3", x.crossing(0, 3, 1), 0);
        due("short 0, 3", x.crossing(0, 3, 2), 1);
        // 200 * 80 / 240 = 66; 88 and 70.
        due("y of 0, 4", x.crossing(0, 4, 0), 66);
        due("gap of 0, 4", x.crossing(0, 4, 1), 18);
        due("short 0, 4", x.crossing(0, 4, 2), 0);
        // 200 * 20 / 60 = 66.
        due("y of 4, 3", x.crossing(4, 3, 0), 66);
        due("gap of 4, 3", x.crossing(4, 3, 1), 18);
        due("short 4, 3", x.crossing(4, 3, 2), 0);
        x.setWidth(18);
        due("a gap as wide as the wire", x.crossing(0, 4, 2), 0);
        x.setWidth(19);
        due("a gap less than the wire", x.crossing(0, 4, 2), 1);
        due("from the other one", x.crossing(4, 0, 2), 1);
    }

    private static void crossingAtY() {
        WireLoops x = new WireLoops();
        x.lay(0, 15, 100);
        x.lay(11, 0, 160);
        // 200 * 220 / 820 = 53; 77 and 124 high there.
        due("y", x.crossing(0, 11, 0), 53);
        due("gap", x.crossing(11, 0, 1), 47);
        x = new WireLoops();
        x.moveLead(0, 101);
        x.moveLead(1, 100);
        x.lay(10, 0, 200);
        x.lay(11, 1, 10);
        // 200 * 20 / 21 = 190; 38 and 1 high there.
        due("y near the leads", x.crossing(10, 11, 0), 190);
        due("gap near the leads", x.crossing(10, 11, 1), 37);
    }

    private static void crossingNone() {
        WireLoops x = new WireLoops();
        x.moveLead(7, 240);
        x.lay(2, 3, 60);
        x.lay(5, 6, 60);
        x.lay(6, 7, 60);
        due("apart", x.crossing(2, 5, 0), WireLoops.NONE);
        due("apart, from the other one", x.crossing(5, 2, 1), WireLoops.NONE);
        due("at the same x", x.crossing(5, 6, 2), WireLoops.NONE);
        due("at the same x, from the other one", x.crossing(6, 5, 0), WireLoops.NONE);
        due("the same wire", x.crossing(2, 2, 0), WireLoops.NONE);
        due("crossings", x.count(2), 0);
    }

    private static void crossingWrong() {
        WireLoops x = threeCrossing();
        for (int wrong : WRONG) {
            due("one " + wrong, x.crossing(wrong, 0, 0), WireLoops.UNKNOWN);
            due("other " + wrong, x.crossing(0, wrong, 0), WireLoops.UNKNOWN);
            due("what " + wrong, x.crossing(0, 3, wrong), WireLoops.BAD_VALUE);
            due("BAD_VALUE ahead of NONE", x.crossing(0, 0, wrong), WireLoops.BAD_VALUE);
            due("UNKNOWN ahead of BAD_VALUE", x.crossing(0, 1, wrong), WireLoops.UNKNOWN);
        }
        due("what 3", x.crossing(0, 3, 3), WireLoops.BAD_VALUE);
        due("no wire", x.crossing(1, 0, 0), WireLoops.UNKNOWN);
        due("no wire", x.crossing(0, 1, 0), WireLoops.UNKNOWN);
        due("no wire, the same", x.crossing(1, 1, 0), WireLoops.UNKNOWN);
    }

    private static void lead() {
        WireLoops x = new WireLoops();
        x.moveLead(3, 555);
        x.lay(8, 3, 60);
        due("x", x.lead(3, 0), 555);
        due("pad", x.lead(3, 1), 8);
        due("no wire", x.lead(4, 1), WireLoops.NONE);
        due("the last one", x.lead(15, 0), 600);
        due("the first one", x.lead(0, 0), 0);
        for (int wrong : WRONG) {
            due("lead " + wrong, x.lead(wrong, 0), WireLoops.UNKNOWN);
            due("what " + wrong, x.lead(3, wrong), WireLoops.BAD_VALUE);
            due("UNKNOWN ahead of BAD_VALUE", x.lead(wrong, 2), WireLoops.UNKNOWN);
        }
        due("what 2", x.lead(3, 2), WireLoops.BAD_VALUE);
    }

    private static void bestHeightTells() {
        WireLoops x = new WireLoops();
        x.lay(0, 5, 100);
        due("without crossings", x.bestHeight(0, 0), 10);
        due("without crossings", x.bestHeight(0, 1), 0);
        x.lay(3, 2, 10);
        // At y 66 the other one is 8 high: 18 is reached at 21 (21 * 66 * 134 * 4 / 40000 = 18).
        due("above a low one", x.bestHeight(0, 0), 21);
        due("above a low one", x.bestHeight(0, 1), 0);
        due("the height stays", x.wire(0, 1), 100);
        due("below a high one", x.bestHeight(3, 0), 10);
        x.setWidth(50);
        due("wider", x.bestHeight(0, 0), 66);
        due("nothing recorded", x.count(12), 3);
    }

    private static void bestHeightOfSeveral() {
        // 0 crosses 3, 4, 5 at y 24, 28, 32, where they are 12, 43, 80 high. It is 0.4224, 0.4816, 0.5376
        // of its height there: 50 above the first one from 147 on, 50 above the second one from 194 on,
        // 50 below the third one up to 57, and never 50 above it.
        WireLoops x = new WireLoops();
        x.setWidth(50);
        x.lay(0, 15, 60);
        x.lay(3, 4, 30);
        x.lay(4, 3, 90);
        x.lay(5, 2, 150);
        int fewest = 99;
        int best = 0;
        for (int height = 10; height <= 200; height++) {
            x.bend(0, height);
            int shortOnes = x.wire(0, 4);
            if (shortOnes < fewest) {
                fewest = shortOnes;
                best = height;
            }
        }
        due("height tried", best, 194);
        due("short ones tried", fewest, 1);
        due("height", x.bestHeight(0, 0), 194);
        due("short ones", x.bestHeight(0, 1), 1);
    }

    /** Pads 0, 1, 2 go to 200, 180, 160: 0 crosses both others in the middle, at their full heights. */
    private static WireLoops crossingInTheMiddle(int width, int heightOf1, int heightOf2) {
        WireLoops x = new WireLoops();
        x.setWidth(width);
        x.moveLead(6, 180);
        x.moveLead(7, 160);
        x.lay(0, 5, 60);
        x.lay(1, 6, heightOf1);
        x.lay(2, 7, heightOf2);
        return x;
    }

    private static void bestHeightAtTheEnds() {
        WireLoops x = crossingInTheMiddle(1, 10, 12);
        due("just between", x.bestHeight(0, 0), 11);
        x = crossingInTheMiddle(1, 11, 12);
        due("just below", x.bestHeight(0, 0), 10);
        x = crossingInTheMiddle(50, 150, 51);
        due("only the highest is clear", x.bestHeight(0, 0), 200);
        due("of both", x.bestHeight(0, 1), 0);
        x = crossingInTheMiddle(50, 150, 50);
        due("just between", x.bestHeight(0, 0), 100);
        x = crossingInTheMiddle(50, 130, 40);
        due("one short anywhere below 180", x.bestHeight(0, 0), 180);
        x = crossingInTheMiddle(50, 155, 55);
        due("clear in between", x.bestHeight(0, 0), 105);
        x = crossingInTheMiddle(50, 154, 56);
        due("one short everywhere: the lowest with one", x.bestHeight(0, 0), 10);
        due("one short everywhere", x.bestHeight(0, 1), 1);
        x = crossingInTheMiddle(50, 59, 59);
        due("both short below 109", x.bestHeight(0, 0), 109);
        due("the height stays", x.wire(0, 1), 60);
    }

    private static void bestHeightWrong() {
        WireLoops x = new WireLoops();
        x.lay(0, 5, 100);
        for (int wrong : WRONG) {
            due("pad " + wrong, x.bestHeight(wrong, 0), WireLoops.UNKNOWN);
            due("what " + wrong, x.bestHeight(0, wrong), WireLoops.BAD_VALUE);
            due("UNKNOWN ahead of BAD_VALUE", x.bestHeight(1, wrong), WireLoops.UNKNOWN);
        }
        due("what 2", x.bestHeight(0, 2), WireLoops.BAD_VALUE);
        due("no wire", x.bestHeight(1, 0), WireLoops.UNKNOWN);
        due("pad 12", x.bestHeight(12, 1), WireLoops.UNKNOWN);
    }

    private static void laysLeft() {
        WireLoops x = new WireLoops();
        due("too low", x.laysLeft(9), WireLoops.BAD_VALUE);
        due("too high", x.laysLeft(201), WireLoops.BAD_VALUE);
        due("much too high", x.laysLeft(Integer.MAX_VALUE), WireLoops.BAD_VALUE);
        for (int laid = 0; laid < 7; laid++) {
            due("left at " + laid, x.laysLeft(200), 7 - laid);
            x.lay(laid, laid, 200);
        }
        due("the tail is lost", x.laysLeft(10), 0);
        due("BAD_VALUE though it is lost", x.laysLeft(9), WireLoops.BAD_VALUE);
        x.thread();
        due("threaded", x.laysLeft(10), 7);
        for (int pad = 7; pad < 12; pad++) {
            x.lay(pad, pad, 10);
        }
        due("no pad is free", x.laysLeft(10), 2);
    }

    private static void laysLeftOfTool() {
        // 34 were laid for a wear of 200 or 199, 33 for 198: one is left until the tail is lost, or two.
        WireLoops x = Chips.worn(200);
        due("worn out", x.laysLeft(10), 0);
        x = Chips.worn(192);
        due("192: wires so far", x.count(1), 32);
        due("192: the tail first", x.laysLeft(10), 3);
        due("192: two of 6", x.laysLeft(200), 2);
        due("192: two of 4", x.laysLeft(149), 2);
        due("192: three of 3", x.laysLeft(99), 3);
        x = Chips.worn(198);
        due("198: one of 2", x.laysLeft(10), 1);
        due("198: one of 6", x.laysLeft(200), 1);
        x = Chips.worn(199);
        due("199: one of 2", x.laysLeft(10), 1);
        x.lay(0, 0, 10);
        due("201: none", x.laysLeft(10), 0);
    }

    private static void countOfWires() {
        WireLoops x = threeCrossing();
        x.lay(11, 15, 10);
        int[] due = {4, 4, 3, 1, 13, 0, 0, 10, 0, 11, 365, 0, 4, 0};
        for (int what = 0; what < due.length; what++) {
            due("count(" + what + ")", x.count(what), due[what]);
        }
        x.setWidth(19);
        due("more short ones", x.count(3), 3);
        x.takeOff(0);
        due("one crossing", x.count(2), 1);
        due("three wires", x.count(0), 3);
        due("four so far", x.count(1), 4);
        due("sum", x.count(10), 270);
        x = new WireLoops();
        x.moveLead(5, 100);
        x.moveLead(6, 120);
        x.lay(1, 6, 10);
        x.lay(0, 5, 10);
        due("as strong as each other", x.wire(0, 2) - x.wire(1, 2), 0);
        due("the lowest pad of the weakest", x.count(9), 0);
        x.pull(1, 10);
        due("the weakest", x.count(9), 1);
    }

    private static void countOfTool() {
        WireLoops x = Chips.withWires(8);
        due("wear", x.count(4), 16);
        due("lost", x.count(5), 0);
        due("lost so far", x.count(6), 1);
        x.changeTool();
        due("no wear", x.count(4), 0);
        due("tools", x.count(11), 1);
        x.lay(8, 8, 10);
        x.changeTool();
        due("tools", x.count(11), 2);
        x.pull(0, 100);
        x.sample(1, 100);
        due("broke", x.count(8), 9);
        due("no wires", x.count(0), 0);
        due("no weakest", x.count(9), WireLoops.NONE);
        due("no strengths", x.count(10), 0);
        due("states", x.count(12), 4);
        Chips.type(x, "abc");
        due("text", x.count(13), 3);
    }

    private static void countWrong() {
        WireLoops x = new WireLoops();
        for (int wrong : WRONG) {
            due("count(" + wrong + ")", x.count(wrong), WireLoops.BAD_VALUE);
        }
        due("count(14)", x.count(14), WireLoops.BAD_VALUE);
    }

    private static void tellingIsNoAct() {
        WireLoops x = Chips.busy();
        String before = Chips.all(x);
        x.wire(0, 5);
        x.wire(0, 7);
        x.heightAt(0, 100);
        x.crossing(0, 3, 1);
        x.lead(3, 1);
        x.bestHeight(0, 0);
        x.bestHeight(3, 1);
        x.laysLeft(200);
        x.keep();
        CHECK.same("after telling", Chips.all(x), before);
    }
}
