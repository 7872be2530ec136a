/** The document's terms of texts, sentence by sentence. */
final class TermsOfTexts {
    private final Sentences of;

    TermsOfTexts(Sentences of) {
        this.of = of;
    }

    void all() {
        String lists = "A list of wires is one or more wires with \",\" between two: a pad (0 to 11), \"-\", a lead"
            + " (0 to 15), and perhaps \":\" and a height (10 to 200; without it 60).";
        String faults = "The fault of the text is the index, from 0, of the first character that is not allowed at its"
            + " place, or the length of the text if it ends too early (the empty text does).";
        of.section("TEXTS");
        of.test("There is a text of at most 80 characters, empty at first.", this::eightyCharacters);
        of.test(lists, this::lists);
        of.test(lists, this::noLists);
        of.test("Numbers have no zero in front unless they are the single digit 0; a digit by which a number would be"
            + " greater than told is not allowed; a height does not begin with 0, and has two digits at least.",
            this::numbers);
        of.test(faults, this::firstFaults);
        of.test(faults, this::endsTooEarly);
        of.test(faults, this::faultsAtTheLastCharacter);
    }

    private void eightyCharacters() {
        WireLoops x = new WireLoops();
        of.due("length at first", x.count(13), 0);
        of.due("nothing to clear at first", x.clearText(), 0);
        of.due("the fault at first", x.layAll(), -100);
        // 20 wires, all from the same pad: no fault, but they can't be laid.
        String list = "0-0,".repeat(19) + "0-10";
        for (int i = 0; i < 80; i++) {
            of.due("character " + (i + 1), x.type(list.charAt(i)), i + 1);
        }
        of.due("the 80 are a list without a fault", x.layAll(), WireLoops.TAKEN);
        of.due("the 81st", x.type(';'), WireLoops.FULL);
        of.due("the 81st, though it could stand there", x.type(','), WireLoops.FULL);
        of.due("80 characters", x.count(13), 80);
        of.due("still a list without a fault", x.layAll(), WireLoops.TAKEN);
        of.due("emptied", x.clearText(), 80);
        for (int i = 1; i <= 80; i++) {
            of.due("once more, character " + i, x.type('x'), i);
        }
        of.due("once more, the 81st", x.type('x'), WireLoops.FULL);
    }

    // ---- lists

    private void lists() {
        for (int pad = 0; pad < 12; pad++) {
            for (int lead = 0; lead < 16; lead++) {
                laid(pad + "-" + lead, pad, lead, 60);
            }
        }
        for (int height = 10; height <= 200; height++) {
            laid("10-15:" + height, 10, 15, height);
        }
        laid("0-0:10", 0, 0, 10);
        laid("11-15:200", 11, 15, 200);
        WireLoops x = Chips.withText("11-15:200,10-14:199,9-13,8-12:10,0-0:100,1-10,7-9:60");
        of.due("seven wires", x.layAll(), 7);
        int[][] wires = {{11, 15, 200}, {10, 14, 199}, {9, 13, 60}, {8, 12, 10}, {0, 0, 100}, {1, 10, 60}, {7, 9, 60}};
        for (int i = 0; i < 7; i++) {
            of.due("lead of wire " + i, x.wire(wires[i][0], 0), wires[i][1]);
            of.due("height of wire " + i, x.wire(wires[i][0], 1), wires[i][2]);
            of.due("number of wire " + i, x.wire(wires[i][0], 6), i);
        }
    }

    private void laid(String text, int pad, int lead, int height) {
        WireLoops x = Chips.withText(text);
        of.due("layAll of " + text, x.layAll(), 1);
        of.due("lead of " + text, x.wire(pad, 0), lead);
        of.due("height of " + text, x.wire(pad, 1), height);
    }

    private void fault(String text, int fault) {
        WireLoops x = Chips.withText(text);
        of.due("layAll of \"" + text + "\"", x.layAll(), -100 - fault);
        of.due("wires of \"" + text + "\"", x.count(0), 0);
        of.due("states of \"" + text + "\"", x.count(12), 0);
        of.due("length of \"" + text + "\"", x.count(13), text.length());
    }

    private void noLists() {
        fault("12-0", 1);
        fault("0-16", 3);
        fault("0-1:201", 6);
        fault("0:1", 1);
        fault("0,1", 1);
        fault("0 1", 1);
        fault("0--1", 2);
        fault("0-:60", 2);
        fault("0-,1-1", 2);
        fault("0-1-2", 3);
        fault("0-1 ", 3);
        fault("0-1;1-2", 3);
        fault("0-1::60", 4);
        fault("0-1:,1-2", 4);
        fault("0-1:-", 4);
        fault("0-1,,1-2", 4);
        fault("0-1,-", 4);
        fault("0-1, 1-2", 4);
        fault("0-1:2-", 5);
        fault("0-1:60:60", 6);
        fault("0-1:60-2", 6);
        fault("0-1:60 ", 6);
        fault("0-1:200:", 7);
    }

    private void numbers() {
        fault("00-1", 1);
        fault("01-1", 1);
        fault("0-00", 3);
        fault("0-01", 3);
        fault("0-1:010", 4);
        fault("0-1:060", 4);
        fault("0-1:0", 4);
        fault("13-0", 1);
        fault("19-0", 1);
        fault("20-0", 1);
        fault("99-0", 1);
        fault("100-1", 2);
        fault("110-1", 2);
        fault("0-17", 3);
        fault("0-19", 3);
        fault("0-20", 3);
        fault("0-99", 3);
        fault("0-100", 4);
        fault("0-150", 4);
        fault("0-1:9,", 5);
        fault("0-1:1,1-2", 5);
        fault("0-1:209", 6);
        fault("0-1:210", 6);
        fault("0-1:300", 6);
        fault("0-1:999", 6);
        fault("0-1:1000", 7);
        fault("0-1:1999", 7);
        fault("0-1:2000", 7);
        laid("0-0:20", 0, 0, 20);
        laid("9-9:99", 9, 9, 99);
        laid("10-10:100", 10, 10, 100);
    }

    // ---- faults

    private void firstFaults() {
        fault("-", 0);
        fault(",", 0);
        fault(":", 0);
        fault(" 0-1", 0);
        fault("x00", 0);
        fault("0x-00", 1);
        fault("0-16,12-0", 3);
        fault("0-1,12-0", 5);
        fault("0-1,1-2,2-3,3-16", 15);
        fault("0-1:99,10-10:100,11-15:201", 25);
        for (int character = 0; character < 65536; character++) {
            WireLoops x = new WireLoops();
            x.type((char) character);
            boolean digit = character >= '0' && character <= '9';
            of.due("layAll of character " + character, x.layAll(), digit ? -101 : -100);
        }
        // Signs whose last eight bits are those of "0", "-", "1".
        fault("\u0130-1", 0);
        fault("0\u012d1", 1);
        fault("0-\u0131", 2);
        // Digits and a hyphen of other scripts.
        fault("\u0660-1", 0);
        fault("0\u20101", 1);
        fault("0-\uff11", 2);
    }

    private void endsTooEarly() {
        fault("", 0);
        fault("1", 1);
        fault("9", 1);
        fault("10", 2);
        fault("9-", 2);
        fault("11-", 3);
        fault("0-1:", 4);
        fault("0-1,", 4);
        fault("0-1:1", 5);
        fault("0-1:9", 5);
        fault("0-1,1", 5);
        fault("0-1,1-", 6);
        fault("0-1:60,1-2:", 11);
        fault("0-1:60,1-2:7", 12);
        fault("0-1:60,1-2:70,", 14);
    }

    private void faultsAtTheLastCharacter() {
        fault("11-15x", 5);
        fault("11-15:200;", 9);
        String wires = "0-0,".repeat(20);
        fault(wires, 80);
        fault(wires.substring(0, 79) + ":", 80);
        fault(wires.substring(0, 79) + "1", 79);
        fault(wires.substring(0, 79) + "x", 79);
        fault(wires.substring(0, 76) + "0-16", 79);
        fault(wires.substring(0, 76) + "0-1:", 80);
        fault(wires.substring(0, 76) + "10-,", 79);
        of.due("no fault in 80", Chips.withText(wires.substring(0, 72) + "11-15:10").layAll(), WireLoops.TAKEN);
        of.due("no fault in 79", Chips.withText(wires.substring(0, 79)).layAll(), WireLoops.TAKEN);
    }
}
