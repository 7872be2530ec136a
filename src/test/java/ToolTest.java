/** Promises 8 to 11: changeTool, thread, pull, sample. */
public final class ToolTest {
    private static final Check CHECK = new Check("ToolTest");

    public static void main(String[] args) {
        changeTool();
        thread();
        pullWrong();
        pullHolds();
        pullBreaks();
        sampleWrong();
        sampleChoice();
        sampleHolds();
        CHECK.end();
    }

    private static void due(String call, int got, int want) {
        CHECK.due(call, got, want);
    }

    private static void changeTool() {
        WireLoops x = new WireLoops();
        due("new tool", x.changeTool(), WireLoops.NONE);
        due("nothing recorded", x.count(12), 0);
        due("none changed", x.count(11), 0);
        x.lay(0, 0, 200);
        x.lay(3, 4, 100);
        due("wear", x.changeTool(), 10);
        due("no wear", x.count(4), 0);
        due("one changed", x.count(11), 1);
        due("recorded", x.count(12), 3);
        due("strength stays", x.wire(3, 2), 99);
        due("new tool", x.changeTool(), WireLoops.NONE);
        x.undo();
        due("wear is back", x.count(4), 10);
        due("none changed", x.count(11), 0);
        x = Chips.worn(200);
        due("worn out", x.changeTool(), 200);
        due("no 35th so far", x.count(1), 34);
    }

    private static void thread() {
        WireLoops x = Chips.withWires(6);
        due("not lost", x.thread(), WireLoops.NONE);
        due("nothing recorded", x.count(12), 4);
        x.lay(6, 6, 10);
        due("lost once", x.thread(), 1);
        due("threaded", x.count(5), 0);
        due("lost so far stays", x.count(6), 1);
        due("threaded already", x.thread(), WireLoops.NONE);
        x.undo();
        due("lost again", x.count(5), 1);
        due("lost once, as before", x.thread(), 1);
        for (int pad = 7; pad < 12; pad++) {
            x.lay(pad, pad, 10);
        }
        x.takeOff(0);
        x.takeOff(1);
        x.lay(0, 0, 10);
        due("13 laid", x.thread(), WireLoops.NONE);
        x.lay(1, 1, 10);
        due("lost twice", x.thread(), 2);
    }

    private static void pullWrong() {
        WireLoops x = new WireLoops();
        x.lay(3, 4, 60);
        due("no wire", x.pull(2, 1), WireLoops.UNKNOWN);
        due("no pad", x.pull(-1, 1), WireLoops.UNKNOWN);
        due("no pad", x.pull(12, 1), WireLoops.UNKNOWN);
        due("UNKNOWN ahead of BAD_VALUE", x.pull(2, 0), WireLoops.UNKNOWN);
        due("no force", x.pull(3, 0), WireLoops.BAD_VALUE);
        due("too much force", x.pull(3, 101), WireLoops.BAD_VALUE);
        due("too much force", x.pull(3, Integer.MAX_VALUE), WireLoops.BAD_VALUE);
        due("nothing recorded", x.count(12), 1);
        due("strength stays", x.wire(3, 2), 100);
    }

    private static void pullHolds() {
        WireLoops x = new WireLoops();
        x.lay(3, 4, 60);
        due("force 1", x.pull(3, 1), 100);
        due("recorded, though nothing changed", x.count(12), 2);
        due("force 9", x.pull(3, 9), 100);
        due("force 10", x.pull(3, 10), 99);
        due("force 19", x.pull(3, 19), 98);
        due("force 20", x.pull(3, 20), 96);
        due("force as its strength", x.pull(3, 96), 87);
        due("broken so far", x.count(8), 0);
        x.undo();
        due("back", x.wire(3, 2), 96);
    }

    private static void pullBreaks() {
        WireLoops x = new WireLoops();
        x.lay(3, 4, 60);
        due("force 100 at 100", x.pull(3, 100), 90);
        due("force 91 at 90", x.pull(3, 91), 1000);
        due("gone", x.wire(3, 0), WireLoops.UNKNOWN);
        due("lead free", x.lead(4, 1), WireLoops.NONE);
        due("no wires", x.count(0), 0);
        due("one broke", x.count(8), 1);
        due("recorded", x.count(12), 3);
        due("nothing to pull", x.pull(3, 1), WireLoops.UNKNOWN);
        x.undo();
        due("back", x.wire(3, 2), 90);
        due("none broke", x.count(8), 0);
        // Each pull takes a tenth of the strength: it gets to 9, and stays, as no pull below 10 weakens.
        x = new WireLoops();
        x.lay(3, 4, 60);
        int strength = 100;
        for (int i = 0; i < 40; i++) {
            strength -= strength / 10;
            due("pulled by its strength", x.pull(3, x.wire(3, 2)), strength);
        }
        due("weakest", strength, 9);
    }

    private static void sampleWrong() {
        WireLoops x = new WireLoops();
        due("no wires", x.sample(1, 1), WireLoops.NONE);
        due("BAD_VALUE ahead of NONE", x.sample(0, 1), WireLoops.BAD_VALUE);
        due("BAD_VALUE ahead of NONE", x.sample(1, 101), WireLoops.BAD_VALUE);
        x.lay(3, 4, 60);
        due("every 0", x.sample(0, 1), WireLoops.BAD_VALUE);
        due("every 13", x.sample(13, 1), WireLoops.BAD_VALUE);
        due("every least", x.sample(Integer.MIN_VALUE, 1), WireLoops.BAD_VALUE);
        due("force 0", x.sample(1, 0), WireLoops.BAD_VALUE);
        due("force 101", x.sample(1, 101), WireLoops.BAD_VALUE);
        due("nothing recorded", x.count(12), 1);
        due("every 12, force 1", x.sample(12, 1), 0);
        due("recorded", x.count(12), 2);
    }

    private static void sampleChoice() {
        for (int every = 1; every <= 12; every++) {
            WireLoops x = Chips.withWires(12);
            int due = 0;
            for (int pad = 0; pad < 12; pad++) {
                due += pad % every == 0 ? 1 : 0;
            }
            due("break of every " + every, x.sample(every, 100), due);
            due("broken so far", x.count(8), due);
            due("left", x.count(0), 12 - due);
            for (int pad = 0; pad < 12; pad++) {
                due("gone, pad " + pad, x.wire(pad, 0), pad % every == 0 ? WireLoops.UNKNOWN : pad);
            }
            x.undo();
            due("one act", x.count(0), 12);
        }
        // By the wires that there are, not by the numbers of the pads.
        WireLoops x = new WireLoops();
        x.lay(9, 0, 60);
        x.lay(2, 1, 60);
        x.lay(7, 2, 60);
        x.lay(5, 3, 60);
        due("2 and 7", x.sample(2, 100), 2);
        due("5 is left", x.wire(5, 0), 3);
        due("9 is left", x.wire(9, 0), 0);
    }

    private static void sampleHolds() {
        WireLoops x = new WireLoops();
        x.lay(3, 4, 10);
        x.lay(4, 5, 10);
        x.lay(0, 15, 10);
        due("strength", x.wire(0, 2), 74);
        due("strength", x.wire(4, 2), 99);
        due("strength", x.wire(3, 2), 100);
        due("only the first one breaks", x.sample(2, 75), 1);
        due("not pulled", x.wire(3, 2), 100);
        due("weaker by 7", x.wire(4, 2), 92);
        due("all hold", x.sample(1, 92), 0);
        due("weaker by 9", x.wire(3, 2), 91);
        due("weaker by 9", x.wire(4, 2), 83);
        due("broken so far", x.count(8), 1);
    }
}
