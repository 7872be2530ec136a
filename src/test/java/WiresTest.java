/** Promises 1, 2, 4 to 7: a new object, lay, takeOff, bend, moveLead, setWidth. */
public final class WiresTest {
    private static final Check CHECK = new Check("WiresTest");

    public static void main(String[] args) {
        newObject();
        layStrength();
        layWear();
        layWrong();
        layTaken();
        layTail();
        layWorn();
        layChangesNothingOnErrors();
        takeOff();
        bend();
        moveLead();
        moveLeadOrder();
        setWidth();
        CHECK.end();
    }

    private static void due(String call, int got, int want) {
        CHECK.due(call, got, want);
    }

    private static void newObject() {
        WireLoops x = new WireLoops();
        int[] counts = {0, 0, 0, 0, 0, 0, 0, 10, 0, WireLoops.NONE, 0, 0, 0, 0};
        for (int what = 0; what < counts.length; what++) {
            due("new: count(" + what + ")", x.count(what), counts[what]);
        }
        for (int lead = 0; lead < 16; lead++) {
            due("new: lead(" + lead + ", 0)", x.lead(lead, 0), 40 * lead);
            due("new: lead(" + lead + ", 1)", x.lead(lead, 1), WireLoops.NONE);
        }
        for (int pad = 0; pad < 12; pad++) {
            due("new: wire(" + pad + ", 0)", x.wire(pad, 0), WireLoops.UNKNOWN);
        }
        due("new: undo()", x.undo(), WireLoops.NONE);
        due("new: restore()", x.restore(), WireLoops.NONE);
        due("new: thread()", x.thread(), WireLoops.NONE);
        due("new: changeTool()", x.changeTool(), WireLoops.NONE);
        due("new: laysLeft(10)", x.laysLeft(10), 7);
        due("new: layAll()", x.layAll(), -100);
    }

    private static void layStrength() {
        due("straight", new WireLoops().lay(3, 4, 60), 100);
        due("20 away", new WireLoops().lay(2, 4, 60), 99);
        due("20 away, other side", new WireLoops().lay(4, 4, 60), 99);
        due("far right", new WireLoops().lay(0, 15, 60), 75);
        due("far left", new WireLoops().lay(11, 0, 60), 84);
        WireLoops x = new WireLoops();
        x.moveLead(4, 141);
        due("19 away", x.lay(3, 4, 10), 100);
        x = new WireLoops();
        x.moveLead(4, 121);
        due("39 away", x.lay(3, 4, 10), 99);
        due("wear 3", layAtWear(3), 100);
        due("wear 4", layAtWear(4), 99);
        due("wear 7", layAtWear(7), 99);
        due("wear 8", layAtWear(8), 98);
        due("wear 199", layAtWear(199), 51);
        x = new WireLoops();
        x.lay(3, 4, 200);
        x.lay(0, 0, 200);
        due("strength as the tool wears further", x.wire(3, 2), 100);
        x = Chips.worn(198);
        due("weak and far", x.lay(0, 15, 10), 26);
    }

    private static int layAtWear(int wear) {
        return Chips.worn(wear).lay(3, 4, 60);
    }

    private static void layWear() {
        int[] heights = {10, 49, 50, 99, 100, 149, 150, 199, 200};
        int[] wears = {2, 2, 3, 3, 4, 4, 5, 5, 6};
        for (int i = 0; i < heights.length; i++) {
            WireLoops x = new WireLoops();
            x.lay(11, 15, heights[i]);
            due("wear by height " + heights[i], x.count(4), wears[i]);
        }
    }

    private static void layWrong() {
        int[] pads = {-1, 12, Integer.MIN_VALUE, Integer.MAX_VALUE};
        int[] leads = {-1, 16, Integer.MIN_VALUE, Integer.MAX_VALUE};
        int[] heights = {9, 201, 0, -60, Integer.MIN_VALUE, Integer.MAX_VALUE};
        WireLoops x = new WireLoops();
        for (int i = 0; i < 4; i++) {
            due("lay from pad " + pads[i], x.lay(pads[i], 0, 60), WireLoops.UNKNOWN);
            due("lay to lead " + leads[i], x.lay(0, leads[i], 60), WireLoops.UNKNOWN);
            due("UNKNOWN ahead of BAD_VALUE", x.lay(pads[i], 0, 9), WireLoops.UNKNOWN);
            due("UNKNOWN ahead of BAD_VALUE", x.lay(0, leads[i], 201), WireLoops.UNKNOWN);
        }
        for (int height : heights) {
            due("lay of height " + height, x.lay(0, 0, height), WireLoops.BAD_VALUE);
        }
        due("nothing recorded", x.count(12), 0);
        due("nothing laid", x.count(1), 0);
        due("height 10", x.lay(11, 15, 10), 86);
        due("height 200", x.lay(0, 0, 200), 95);
    }

    private static void layTaken() {
        WireLoops x = new WireLoops();
        x.lay(2, 3, 60);
        due("pad has a wire", x.lay(2, 4, 60), WireLoops.TAKEN);
        due("lead has a wire", x.lay(1, 3, 60), WireLoops.TAKEN);
        due("both have", x.lay(2, 3, 60), WireLoops.TAKEN);
        due("BAD_VALUE ahead of TAKEN", x.lay(2, 3, 9), WireLoops.BAD_VALUE);
        due("UNKNOWN ahead of TAKEN", x.lay(2, 16, 60), WireLoops.UNKNOWN);
        due("one state", x.count(12), 1);
        x.takeOff(2);
        due("both free again", x.lay(2, 3, 60), 99);
    }

    private static void layTail() {
        WireLoops x = Chips.withWires(6);
        due("not lost yet", x.count(5), 0);
        x.lay(6, 6, 10);
        due("lost behind the 7th", x.count(5), 1);
        due("lost once", x.count(6), 1);
        due("no tail", x.lay(7, 7, 10), WireLoops.NO_TAIL);
        due("TAKEN ahead of NO_TAIL", x.lay(6, 7, 10), WireLoops.TAKEN);
        due("BAD_VALUE ahead of NO_TAIL", x.lay(7, 7, 9), WireLoops.BAD_VALUE);
        x.takeOff(0);
        due("taken off, and still lost", x.lay(0, 0, 10), WireLoops.NO_TAIL);
        x.thread();
        for (int i = 0; i < 6; i++) {
            due("8 to 13", Math.min(0, x.lay(0, 0, 10)), 0);
            x.takeOff(0);
        }
        due("not lost behind the 13th", x.count(5), 0);
        x.lay(0, 0, 10);
        due("lost behind the 14th", x.count(5), 1);
        due("lost twice", x.count(6), 2);
    }

    private static void layWorn() {
        WireLoops x = Chips.worn(199);
        due("wear", x.count(4), 199);
        due("199 is not worn out", x.lay(3, 4, 200), 51);
        due("wear then", x.count(4), 205);
        x.thread();
        due("205 is", x.lay(0, 0, 10), WireLoops.WORN);
        due("TAKEN ahead of WORN", x.lay(3, 0, 10), WireLoops.TAKEN);
        x.changeTool();
        due("new tool", x.lay(0, 0, 10), 95);
        x = Chips.worn(200);
        due("200 is", x.lay(0, 0, 10), WireLoops.WORN);
        x = lostAndWorn();
        due("wear", x.count(4), 200);
        due("lost", x.count(5), 1);
        due("NO_TAIL ahead of WORN", x.lay(0, 0, 10), WireLoops.NO_TAIL);
        due("TAKEN ahead of both", x.lay(11, 0, 10), WireLoops.TAKEN);
        x.thread();
        due("WORN is left", x.lay(0, 0, 10), WireLoops.WORN);
    }

    /** 35 wires, so that the tail is lost too. */
    private static WireLoops lostAndWorn() {
        WireLoops x = new WireLoops();
        for (int laid = 1; laid <= 35; laid++) {
            x.takeOff(11);
            x.lay(11, 15, laid <= 30 ? 200 : 100);
            if (laid % 7 == 0 && laid < 35) {
                x.thread();
            }
        }
        return x;
    }

    private static void layChangesNothingOnErrors() {
        WireLoops x = Chips.busy();
        String before = Chips.all(x);
        x.lay(12, 0, 60);
        x.lay(1, 16, 60);
        x.lay(1, 0, 201);
        x.lay(0, 0, 60);
        x.lay(1, 5, 60);
        CHECK.same("after errors of lay", Chips.all(x), before);
    }

    private static void takeOff() {
        WireLoops x = new WireLoops();
        due("no wire", x.takeOff(0), WireLoops.UNKNOWN);
        due("no pad", x.takeOff(-1), WireLoops.UNKNOWN);
        due("no pad", x.takeOff(12), WireLoops.UNKNOWN);
        due("no pad", x.takeOff(Integer.MIN_VALUE), WireLoops.UNKNOWN);
        due("no pad", x.takeOff(Integer.MAX_VALUE), WireLoops.UNKNOWN);
        due("nothing recorded", x.count(12), 0);
        x.lay(11, 0, 60);
        x.pull(11, 20);
        due("its strength", x.takeOff(11), 82);
        due("recorded", x.count(12), 3);
        due("gone", x.wire(11, 2), WireLoops.UNKNOWN);
        due("lead free", x.lead(0, 1), WireLoops.NONE);
        due("gone already", x.takeOff(11), WireLoops.UNKNOWN);
        due("laid so far", x.count(1), 1);
        due("not broken", x.count(8), 0);
        due("wear stays", x.count(4), 3);
        x.undo();
        due("back", x.wire(11, 2), 82);
    }

    private static void bend() {
        WireLoops x = new WireLoops();
        x.lay(3, 4, 60);
        due("no wire", x.bend(2, 100), WireLoops.UNKNOWN);
        due("no pad", x.bend(12, 100), WireLoops.UNKNOWN);
        due("no pad", x.bend(-1, 100), WireLoops.UNKNOWN);
        due("UNKNOWN ahead of BAD_VALUE", x.bend(2, 9), WireLoops.UNKNOWN);
        due("too low", x.bend(3, 9), WireLoops.BAD_VALUE);
        due("too high", x.bend(3, 201), WireLoops.BAD_VALUE);
        due("so already", x.bend(3, 60), WireLoops.NONE);
        due("nothing recorded", x.count(12), 1);
        due("bent", x.bend(3, 200), 60);
        due("height", x.wire(3, 1), 200);
        due("bent", x.bend(3, 10), 200);
        due("no wear", x.count(4), 3);
        due("not laid anew", x.count(1), 1);
        due("strength stays", x.wire(3, 2), 100);
        due("number stays", x.wire(3, 6), 0);
        due("recorded", x.count(12), 3);
        x.undo();
        due("back", x.wire(3, 1), 200);
    }

    private static void moveLead() {
        WireLoops x = new WireLoops();
        due("no lead", x.moveLead(-1, 0), WireLoops.UNKNOWN);
        due("no lead", x.moveLead(16, 0), WireLoops.UNKNOWN);
        due("no lead", x.moveLead(Integer.MAX_VALUE, 0), WireLoops.UNKNOWN);
        due("too far left", x.moveLead(3, -1), WireLoops.BAD_VALUE);
        due("too far right", x.moveLead(3, 601), WireLoops.BAD_VALUE);
        due("there already", x.moveLead(3, 120), WireLoops.NONE);
        due("nothing recorded", x.count(12), 0);
        due("moved", x.moveLead(3, 600), 120);
        due("moved", x.moveLead(3, 0), 600);
        due("x", x.lead(3, 0), 0);
        due("others stay", x.lead(4, 0), 160);
        due("recorded", x.count(12), 2);
        due("to where another one lies", x.moveLead(15, 0), 600);
        due("strength by the new x", x.lay(0, 15, 10), 95);
    }

    private static void moveLeadOrder() {
        WireLoops x = new WireLoops();
        x.lay(0, 3, 60);
        due("has a wire", x.moveLead(3, 130), WireLoops.TAKEN);
        due("TAKEN ahead of NONE", x.moveLead(3, 120), WireLoops.TAKEN);
        due("BAD_VALUE ahead of TAKEN", x.moveLead(3, 601), WireLoops.BAD_VALUE);
        due("UNKNOWN ahead of BAD_VALUE", x.moveLead(16, 601), WireLoops.UNKNOWN);
        due("nothing recorded", x.count(12), 1);
        x.takeOff(0);
        due("free again", x.moveLead(3, 130), 120);
    }

    private static void setWidth() {
        WireLoops x = new WireLoops();
        due("too thin", x.setWidth(0), WireLoops.BAD_VALUE);
        due("too thick", x.setWidth(51), WireLoops.BAD_VALUE);
        due("too thin", x.setWidth(Integer.MIN_VALUE), WireLoops.BAD_VALUE);
        due("so already", x.setWidth(10), WireLoops.NONE);
        due("nothing recorded", x.count(12), 0);
        due("thinnest", x.setWidth(1), 10);
        due("thickest", x.setWidth(50), 1);
        due("width", x.count(7), 50);
        due("recorded", x.count(12), 2);
        x.undo();
        due("back", x.count(7), 1);
    }
}
