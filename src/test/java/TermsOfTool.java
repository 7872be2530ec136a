/** The document's terms of the tool, of bonds and of tests, sentence by sentence. */
final class TermsOfTool {
    private final Sentences of;

    TermsOfTool(Sentences of) {
        this.of = of;
    }

    void all() {
        String tail = "The tail: behind each 7th wire that is laid (7, 14, and so on, of all wires so far, also those"
            + " that were taken off since) the tail is lost: it has to be threaded anew before another wire is laid.";
        of.section("THE TOOL, BONDS");
        of.test("Laying a wire makes two bonds with the tool, which wears by 2 + h / 50 for both together (0 at first;"
            + " at most 999).", this::wear);
        of.test("The strength of a wire is 100 less the wear of the tool divided by 4, as it was ahead of that, but at"
            + " least 0, and less 1 for each 20 of the way from the pad's x to the lead's x.", this::strength);
        of.test("It is at least 0, too, and does not change as the tool wears further.", this::strengthStays);
        of.test(tail, this::tail);
        of.test(tail, this::tailOfWiresThatAreGone);
        of.test("If the wear is 200 or more, no wire is laid: the tool has to be changed (its wear is 0 then).",
            this::wornOut);
        of.section("TESTS");
        of.test("A pull of some force (1 to 100) breaks a wire if its strength is less than the force: it is gone"
            + " then.", this::pullBreaks);
        of.test("A wire that is pulled and holds is 1 weaker, but not below 0, for each full 10 of the force.",
            this::pullWeakens);
    }

    // ---- THE TOOL, BONDS

    private void wear() {
        of.due("at first", new WireLoops().count(4), 0);
        int[] heights = {10, 49, 50, 99, 100, 149, 150, 199, 200};
        int[] wears = {2, 2, 3, 3, 4, 4, 5, 5, 6};
        int sum = 0;
        WireLoops all = new WireLoops();
        for (int i = 0; i < heights.length; i++) {
            WireLoops x = new WireLoops();
            x.lay(11, 15, heights[i]);
            of.due("by height " + heights[i], x.count(4), wears[i]);
            all.lay(i, i, heights[i]);
            all.thread();
            sum += wears[i];
            of.due("summed up to height " + heights[i], all.count(4), sum);
        }
        WireLoops x = Chips.busy();
        of.due("of one wire of 200 behind a change", x.count(4), 6);
        x.bend(10, 10);
        x.takeOff(3);
        x.pull(4, 10);
        x.pull(7, 100);
        x.sample(1, 10);
        x.lay(0, 3, 60);
        x.keep();
        of.due("by what lays no wire", x.count(4), 6);
        x = Chips.worn(199);
        x.lay(0, 0, 200);
        of.due("the greatest of all", x.count(4), 205);
        x.thread();
        x.lay(1, 1, 200);
        of.due("and no greater one", x.count(4), 205);
    }

    private void strength() {
        WireLoops x = new WireLoops();
        of.due("the wear ahead of it, 0 of 6 then", x.lay(3, 4, 200), 100);
        of.due("the wear ahead of it, 6 of 12 then", x.lay(5, 5, 200), 99);
        of.due("wear 3", strengthAtWear(3), 100);
        of.due("wear 4", strengthAtWear(4), 99);
        of.due("wear 7", strengthAtWear(7), 99);
        of.due("wear 8", strengthAtWear(8), 98);
        of.due("wear 195", strengthAtWear(195), 52);
        of.due("wear 196", strengthAtWear(196), 51);
        of.due("wear 199, the greatest that lays", strengthAtWear(199), 51);
        int[] ways = {0, 19, 20, 39, 40, 160, 440, 459, 460};
        for (int way : ways) {
            x = new WireLoops();
            x.moveLead(4, 140 + way);
            of.due(way + " to the right", x.lay(2, 4, 60), 100 - way / 20);
        }
        for (int way = 0; way <= 320; way += way % 20 == 0 ? 19 : 1) {
            x = new WireLoops();
            x.moveLead(4, 320 - way);
            of.due(way + " to the left", x.lay(11, 4, 60), 100 - way / 20);
        }
        of.due("the longest way, 500", new WireLoops().lay(0, 15, 60), 75);
    }

    private static int strengthAtWear(int wear) {
        return Chips.worn(wear).lay(3, 4, 60);
    }

    private void strengthStays() {
        WireLoops x = Chips.worn(199);
        of.due("the weakest that is laid: 100 - 199 / 4 - 500 / 20", x.lay(0, 15, 60), 26);
        for (int strength = 26; strength >= 10; strength -= strength / 10) {
            of.due("weaker by each pull", x.pull(0, strength), strength - strength / 10);
        }
        of.due("and no weaker by less than 10", x.pull(0, 9), 9);
        x = new WireLoops();
        x.lay(0, 0, 200);
        x.lay(3, 4, 200);
        of.due("the first one as the tool wears", x.wire(0, 2), 95);
        x.changeTool();
        of.due("the first one as the tool is changed", x.wire(0, 2), 95);
        of.due("the second one as the tool is changed", x.wire(3, 2), 99);
        x.bend(3, 10);
        of.due("as it is bent", x.wire(3, 2), 99);
        x.lay(5, 6, 200);
        of.due("as another one is laid with a new tool", x.wire(3, 2), 99);
        of.due("all of them", x.count(10), 95 + 99 + 98);
    }

    private void tail() {
        WireLoops x = new WireLoops();
        for (int laid = 1; laid <= 70; laid++) {
            of.due("wire " + laid + " is laid", Math.min(0, x.lay(11, 15, 10)), 0);
            x.takeOff(11);
            of.due("lost behind wire " + laid, x.count(5), laid % 7 == 0 ? 1 : 0);
            of.due("how often, behind wire " + laid, x.count(6), laid / 7);
            if (laid % 7 == 0) {
                of.due("another wire behind wire " + laid, x.lay(0, 0, 10), WireLoops.NO_TAIL);
                of.due("threaded behind wire " + laid, x.thread(), laid / 7);
            }
        }
        x = Chips.withWires(6);
        of.due("threaded behind the 6th", x.thread(), WireLoops.NONE);
        x.lay(6, 6, 10);
        of.due("the 7th loses it all the same", x.lay(7, 7, 10), WireLoops.NO_TAIL);
        x.thread();
        of.due("the 8th", Math.min(0, x.lay(7, 7, 10)), 0);
        of.due("not lost behind the 8th", x.count(5), 0);
    }

    private void tailOfWiresThatAreGone() {
        WireLoops x = Chips.withWires(3);
        x.takeOff(0);
        x.pull(1, 100);
        x.sample(1, 100);
        of.due("no wires", x.count(0), 0);
        for (int pad = 0; pad < 3; pad++) {
            x.lay(pad, pad, 10);
        }
        x.lay(0, 12, 10);
        of.due("six, and one that was refused", x.count(5), 0);
        x.changeTool();
        x.lay(3, 3, 10);
        of.due("lost behind the 7th, though there are four", x.count(5), 1);
        x.takeOff(3);
        of.due("lost still, though the 7th is gone", x.lay(3, 3, 10), WireLoops.NO_TAIL);
        x = Chips.withWires(6);
        x.lay(6, 6, 10);
        x.undo();
        of.due("not lost as the 7th is undone", x.count(5), 0);
        of.due("the 7th once more", Math.min(0, x.lay(6, 6, 10)), 0);
        of.due("lost once", x.count(6), 1);
    }

    private void wornOut() {
        WireLoops x = Chips.worn(199);
        of.due("199", x.lay(3, 4, 60), 51);
        x = Chips.worn(200);
        of.due("200", x.lay(3, 4, 60), WireLoops.WORN);
        of.due("how many are left at 200", x.laysLeft(10), 0);
        of.due("changed", x.changeTool(), 200);
        of.due("wear then", x.count(4), 0);
        of.due("laid with the new tool", x.lay(3, 4, 60), 100);
        x = Chips.worn(199);
        x.lay(3, 4, 10);
        x.thread();
        of.due("201", x.lay(0, 0, 10), WireLoops.WORN);
        x.takeOff(3);
        of.due("201, though the wire is gone", x.lay(3, 4, 10), WireLoops.WORN);
        x.changeTool();
        for (int laid = 36; laid < 36 + 34; laid++) {
            of.due("worn anew, " + laid, Math.min(0, x.lay(3, 4, 200)), 0);
            x.takeOff(3);
            x.thread();
        }
        of.due("worn out anew, 204", x.lay(3, 4, 200), WireLoops.WORN);
        of.due("changed a second time", x.changeTool(), 204);
        of.due("two tools", x.count(11), 2);
    }

    // ---- TESTS

    private void pullBreaks() {
        WireLoops x = Chips.busy();
        of.due("force 0", x.pull(0, 0), WireLoops.BAD_VALUE);
        of.due("force 1", x.pull(0, 1), 95);
        of.due("force 101", x.pull(0, 101), WireLoops.BAD_VALUE);
        of.due("force as its strength", x.pull(0, 95), 86);
        of.due("it is there", x.wire(0, 2), 86);
        of.due("one broke ahead", x.count(8), 1);
        of.due("force 1 more than its strength", x.pull(0, 87), 1000);
        of.due("it is gone", x.wire(0, 2), WireLoops.UNKNOWN);
        of.due("its lead is free", x.lead(5, 1), WireLoops.NONE);
        of.due("it crosses none", x.crossing(0, 3, 0), WireLoops.UNKNOWN);
        of.due("two broke", x.count(8), 2);
        of.due("five are left", x.count(0), 5);
        of.due("no second pull", x.pull(0, 87), WireLoops.UNKNOWN);
        x = new WireLoops();
        x.lay(3, 4, 60);
        of.due("force 100 at 100", x.pull(3, 100), 90);
        of.due("force 100 at 90", x.pull(3, 100), 1000);
    }

    private void pullWeakens() {
        for (int force = 1; force <= 100; force++) {
            WireLoops x = new WireLoops();
            x.lay(3, 4, 60);
            of.due("force " + force, x.pull(3, force), 100 - force / 10);
            of.due("strength behind force " + force, x.wire(3, 2), 100 - force / 10);
        }
        WireLoops x = Chips.withWires(2);
        x.pull(0, 30);
        of.due("the other wire", x.wire(1, 2), 96);
        // Each pull takes a tenth of the strength: it gets to 9, and no pull below 10 weakens.
        x = new WireLoops();
        x.lay(3, 4, 60);
        for (int strength = 100; strength >= 10; strength -= strength / 10) {
            of.due("by its whole strength", x.pull(3, strength), strength - strength / 10);
        }
        of.due("the weakest of all", x.pull(3, 9), 9);
        of.due("not below 0", Math.min(0, x.count(10)), 0);
    }
}
