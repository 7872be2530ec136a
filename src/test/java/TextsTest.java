/** Promises 3, 12, 13: layAll with the faults of a text, type, clearText. */
public final class TextsTest {
    private static final Check CHECK = new Check("TextsTest");

    public static void main(String[] args) {
        type();
        clearText();
        faultsOfPadsAndLeads();
        faultsOfHeights();
        faultsOfLists();
        strangeCharacters();
        goodTexts();
        fullTexts();
        layAllLays();
        layAllIsOneAct();
        layAllTaken();
        layAllNoTail();
        layAllWorn();
        layAllOrder();
        CHECK.end();
    }

    private static void due(String call, int got, int want) {
        CHECK.due(call, got, want);
    }

    private static void type() {
        WireLoops x = new WireLoops();
        for (int i = 1; i <= 80; i++) {
            due("type " + i, x.type((char) (i * 817)), i);
        }
        due("full", x.type('0'), WireLoops.FULL);
        due("still full", x.type('\0'), WireLoops.FULL);
        due("length", x.count(13), 80);
        due("no act", x.count(12), 0);
        due("clear", x.clearText(), 80);
        due("room again", x.type('\uffff'), 1);
    }

    private static void clearText() {
        WireLoops x = new WireLoops();
        due("empty", x.clearText(), 0);
        Chips.type(x, "0-1");
        due("three", x.clearText(), 3);
        due("empty then", x.count(13), 0);
        due("empty already", x.clearText(), 0);
        due("no act", x.count(12), 0);
        Chips.type(x, "2-3");
        due("nothing of the old text", x.layAll(), 1);
        due("the new wire", x.wire(2, 0), 3);
        x.undo();
        due("undo leaves the text", x.count(13), 3);
        Chips.type(x, "4");
        due("a fault of the old text is gone", x.clearText(), 4);
    }

    private static void fault(String text, int fault) {
        WireLoops x = Chips.withText(text);
        due("layAll of \"" + text + "\"", x.layAll(), -100 - fault);
        due("wires of \"" + text + "\"", x.count(0), 0);
        due("states of \"" + text + "\"", x.count(12), 0);
        due("length of \"" + text + "\"", x.count(13), text.length());
    }

    private static void faultsOfPadsAndLeads() {
        fault("", 0);
        fault("-", 0);
        fault(",", 0);
        fault(" 0-1", 0);
        fault("1", 1);
        fault("12-0", 1);
        fault("19-0", 1);
        fault("20-0", 1);
        fault("90", 1);
        fault("00-1", 1);
        fault("01-1", 1);
        fault("0:1", 1);
        fault("0,1", 1);
        fault("10", 2);
        fault("110-1", 2);
        fault("100-1", 2);
        fault("9-", 2);
        fault("0--1", 2);
        fault("0-:60", 2);
        fault("0-,", 2);
        fault("0-16", 3);
        fault("0-19", 3);
        fault("0-20", 3);
        fault("0-00", 3);
        fault("0-01", 3);
        fault("0-1-2", 3);
        fault("0-1 ", 3);
        fault("0-150", 4);
        fault("11-15x", 5);
        fault("11-", 3);
    }

    private static void faultsOfHeights() {
        fault("0-1:", 4);
        fault("0-1:0", 4);
        fault("0-1:060", 4);
        fault("0-1:,", 4);
        fault("0-1:-", 4);
        fault("0-1::", 4);
        fault("0-1:1", 5);
        fault("0-1:9", 5);
        fault("0-1:9,", 5);
        fault("0-1:2-", 5);
        fault("0-1:201", 6);
        fault("0-1:209", 6);
        fault("0-1:210", 6);
        fault("0-1:300", 6);
        fault("0-1:999", 6);
        fault("0-1:60:60", 6);
        fault("0-1:60-", 6);
        fault("0-1:1000", 7);
        fault("0-1:2000", 7);
        fault("0-1:1999", 7);
        fault("11-15:200;", 9);
    }

    private static void faultsOfLists() {
        fault("0-1,", 4);
        fault("0-1,,", 4);
        fault("0-1,-", 4);
        fault("0-1,12-0", 5);
        fault("0-1,1", 5);
        fault("0-1:60,1-2:", 11);
        fault("0-1:60,1-2:7", 12);
        fault("0-1:60,1-2:70,", 14);
        fault("0-1,1-2,2-3,3-16", 15);
        fault("0-1,0-1,0-1,", 12);
    }

    private static void strangeCharacters() {
        for (int character = 0; character < 65536; character += character < 256 ? 1 : 251) {
            WireLoops x = new WireLoops();
            x.type((char) character);
            boolean digit = character >= '0' && character <= '9';
            due("layAll of character " + character, x.layAll(), digit ? -101 : -100);
        }
        // Signs whose last eight bits are those of "0-1".
        WireLoops x = new WireLoops();
        x.type((char) 0x130);
        x.type((char) 0x12d);
        x.type((char) 0x131);
        due("not \"0-1\"", x.layAll(), -100);
        fault("\u0660-1", 0);
        fault("0\u20101", 1);
    }

    private static void goodTexts() {
        for (int pad = 0; pad < 12; pad++) {
            for (int lead = 0; lead < 16; lead++) {
                WireLoops x = Chips.withText(pad + "-" + lead);
                due("layAll of " + pad + "-" + lead, x.layAll(), 1);
                due("lead", x.wire(pad, 0), lead);
                due("height", x.wire(pad, 1), 60);
            }
        }
        for (int height = 10; height <= 200; height++) {
            WireLoops x = Chips.withText("10-15:" + height);
            due("layAll with height " + height, x.layAll(), 1);
            due("height", x.wire(10, 1), height);
        }
    }

    private static void fullTexts() {
        StringBuilder wires = new StringBuilder();
        for (int i = 0; i < 20; i++) {
            wires.append("0-0,");
        }
        WireLoops x = Chips.withText(wires.toString());
        due("a comma at the end of 80", x.layAll(), -180);
        x = Chips.withText(wires.substring(0, 79));
        due("20 wires, none at fault", x.layAll(), WireLoops.TAKEN);
        x = Chips.withText(wires.substring(0, 79) + ":");
        due("a colon at the end of 80", x.layAll(), -180);
        x = Chips.withText(wires.substring(0, 79) + "1");
        due("a zero in front at the end of 80", x.layAll(), -179);
        x = Chips.withText(wires.substring(0, 76) + "0-10");
        due("20 wires in 80", x.layAll(), WireLoops.TAKEN);
        x = Chips.withText("11-15:200,10-14:200,9-13:200,8-12:200,7-11:200,6-10:200,5-9:200");
        due("seven long ones", x.layAll(), 7);
    }

    private static void layAllLays() {
        WireLoops x = new WireLoops();
        x.lay(5, 6, 200);
        Chips.type(x, "3-4:100,11-15:10,0-0");
        due("four wires then", x.layAll(), 4);
        due("strength at wear 6", x.wire(3, 2), 99);
        due("strength at wear 10", x.wire(11, 2), 84);
        due("strength at wear 12", x.wire(0, 2), 92);
        due("number", x.wire(3, 6), 1);
        due("number", x.wire(11, 6), 2);
        due("number", x.wire(0, 6), 3);
        due("height", x.wire(3, 1), 100);
        due("height", x.wire(11, 1), 10);
        due("height", x.wire(0, 1), 60);
        due("wear", x.count(4), 15);
        due("so far", x.count(1), 4);
        due("the text stays", x.count(13), 20);
    }

    private static void layAllIsOneAct() {
        WireLoops x = Chips.withText("3-4,2-3,1-2");
        String before = Chips.state(x);
        due("three wires", x.layAll(), 3);
        due("one state", x.count(12), 1);
        due("undo", x.undo(), 0);
        CHECK.same("undone", Chips.state(x), before);
        due("again", x.layAll(), 3);
        due("taken now", x.layAll(), WireLoops.TAKEN);
        due("still one state", x.count(12), 1);
    }

    private static void error(WireLoops x, int error) {
        String before = Chips.all(x);
        due("layAll", x.layAll(), error);
        CHECK.same("all or none", Chips.all(x), before);
    }

    private static void layAllTaken() {
        error(Chips.withText("0-1,0-2"), WireLoops.TAKEN);
        error(Chips.withText("0-1,1-1"), WireLoops.TAKEN);
        WireLoops x = Chips.busy();
        Chips.type(x, ",6-7,7-8");
        error(x, WireLoops.TAKEN);
    }

    private static void layAllNoTail() {
        WireLoops x = Chips.withText("0-0,1-1,2-2,3-3,4-4,5-5,6-6");
        due("the 7th is laid", x.layAll(), 7);
        due("and the tail is lost", x.count(5), 1);
        error(Chips.withText("0-0,1-1,2-2,3-3,4-4,5-5,6-6,7-7"), WireLoops.NO_TAIL);
        error(Chips.withText("0-0,1-1,2-2,3-3,4-4,5-5,6-6,6-7"), WireLoops.TAKEN);
        error(Chips.withText("0-0,1-1,2-2,3-3,4-4,5-5,6-6,7-7,7-7"), WireLoops.NO_TAIL);
        x = Chips.withWires(7);
        Chips.type(x, "9-9");
        due("threaded", x.layAll(), 8);
        x.clearText();
        x.takeOff(0);
        x.takeOff(1);
        Chips.type(x, "0-0,1-1,7-7,8-8,10-10,11-11,2-12");
        error(x, WireLoops.TAKEN);
    }

    private static void layAllWorn() {
        WireLoops x = Chips.worn(198);
        Chips.type(x, "0-0:10,1-1:10");
        error(x, WireLoops.WORN);
        x = Chips.worn(197);
        Chips.type(x, "0-0:10,1-1:10");
        due("197, 199", x.layAll(), 2);
        due("wear", x.count(4), 201);
        x = Chips.worn(200);
        Chips.type(x, "0-0");
        error(x, WireLoops.WORN);
    }

    private static void layAllOrder() {
        WireLoops x = Chips.withText("0-0,1-1,2-2,3-3,4-4,5-5,6-6");
        x.layAll();
        Chips.type(x, ",");
        error(x, -128);
        x.clearText();
        error(x, -100);
        x = Chips.worn(200);
        Chips.type(x, "0-16");
        error(x, -103);
    }
}
