import java.util.function.Supplier;

/** Promises 3, 12 and 13, sentence by sentence: layAll, type, clearText. */
final class PromisesOfTexts {
    private final Sentences of;

    PromisesOfTexts(Sentences of) {
        this.of = of;
    }

    void all() {
        String lays = "`int layAll()`: Lays the wires of the text, which stays, one after the other; all of them, or"
            + " none.";
        String answers = "Returns how many wires there are then; -100 minus the fault of the text if it has one (which"
            + " is an error); TAKEN, NO_TAIL or WORN if laying any returns that.";
        of.section("Promise 3");
        of.test(lays, this::oneAfterTheOther);
        of.test(lays, this::textStays);
        of.test(lays, this::allOrNone);
        of.test("This is one act.", this::oneAct);
        of.test(answers, this::howManyWires);
        of.test(answers, this::taken);
        of.test(answers, this::noTail);
        of.test(answers, this::worn);
        of.test(answers, this::faultAheadOfAll);
        of.section("Promise 12");
        of.test("`int type(char character)`: Types a character behind the text.", this::types);
        of.test("`character`: any character", this::anyCharacter);
        of.test("Returns the length of the text then; FULL if it has 80 characters.", this::typeAnswers);
        of.section("Promise 13");
        of.test("`int clearText()`: Empties the text.", this::clears);
        of.test("Returns the length that it had.", this::clearTextAnswers);
    }

    // ---- promise 3

    private void oneAfterTheOther() {
        WireLoops x = new WireLoops();
        x.lay(5, 6, 200);
        Chips.type(x, "3-4:100,11-15:10,0-0");
        x.layAll();
        of.due("the first one's strength, at wear 6", x.wire(3, 2), 99);
        of.due("the second one's strength, at wear 10", x.wire(11, 2), 84);
        of.due("the third one's strength, at wear 12", x.wire(0, 2), 92);
        of.due("the first one's number", x.wire(3, 6), 1);
        of.due("the second one's number", x.wire(11, 6), 2);
        of.due("the third one's number", x.wire(0, 6), 3);
        of.due("the first one's height", x.wire(3, 1), 100);
        of.due("the second one's height", x.wire(11, 1), 10);
        of.due("the third one's height", x.wire(0, 1), 60);
        of.due("wear", x.count(4), 15);
        of.due("wires so far", x.count(1), 4);
        of.due("lead", x.lead(15, 1), 11);
    }

    private void textStays() {
        WireLoops x = Chips.withText("3-4,2-3,1-2");
        x.layAll();
        of.due("its length", x.count(13), 11);
        x.undo();
        of.due("the same wires again", x.layAll(), 3);
        of.due("which are taken now", x.layAll(), WireLoops.TAKEN);
        of.due("its length behind an error", x.count(13), 11);
        Chips.type(x, ",");
        of.due("typed behind it", x.layAll(), -112);
    }

    private void allOrNone() {
        refused("taken at last", WireLoops::new, "0-0,1-1,2-2,3-3,4-4,0-5", WireLoops.TAKEN);
        refused("no tail at last", WireLoops::new, "0-0,1-1,2-2,3-3,4-4,5-5,6-6,7-7", WireLoops.NO_TAIL);
        refused("worn at last", () -> Chips.worn(188), "0-0:200,1-1:200,2-2:200", WireLoops.WORN);
        refused("a fault at last", WireLoops::new, "0-0,1-1,2-2,3-", -114);
        refused("a fault behind the last wire", WireLoops::new, "0-0,1-1,2-2,3-3;", -115);
        WireLoops x = Chips.withText("0-0:200,1-1:200,2-2:200,3-3:200,4-4:200,5-5:200,6-6:200");
        of.due("all of seven", x.layAll(), 7);
        of.due("wear of seven", x.count(4), 42);
    }

    private void refused(String what, Supplier<WireLoops> made, String text, int answer) {
        of.refused(what, Chips.retyped(made, text), x -> x.layAll(), answer);
    }

    private void oneAct() {
        act("three wires", WireLoops::new, "3-4,2-3,1-2", 3);
        act("three more", Chips::busy, "1-0,2-3,5-4", 9);
        act("seven, and the tail is lost", WireLoops::new, "0-0,1-1,2-2,3-3,4-4,5-5,6-6", 7);
        act("one wire", WireLoops::new, "0-0", 1);
        WireLoops x = Chips.withText("3-4,2-3,1-2");
        x.layAll();
        of.due("one state", x.count(12), 1);
        of.due("one undo", x.undo(), 0);
        of.due("no wires", x.count(0), 0);
        of.due("no wires so far", x.count(1), 0);
        of.due("no wear", x.count(4), 0);
    }

    private void act(String what, Supplier<WireLoops> made, String text, int answer) {
        of.act(what, Chips.retyped(made, text), x -> x.layAll(), answer);
    }

    private static int layAll(WireLoops x, String text) {
        return Chips.retyped(() -> x, text).get().layAll();
    }

    private void howManyWires() {
        of.due("one", layAll(new WireLoops(), "0-0"), 1);
        of.due("seven", layAll(new WireLoops(), "11-15,10-14,9-13,8-12,7-11,6-10,5-9"), 7);
        of.due("those ahead of it, too", layAll(Chips.busy(), "1-0,2-3,5-4,6-6,9-7,11-8"), 12);
        WireLoops x = Chips.withWires(11);
        x.takeOff(3);
        of.due("but not those that were taken off", layAll(x, "11-12"), 11);
    }

    private void taken() {
        refused("pad", Chips::busy, "0-3", WireLoops.TAKEN);
        refused("lead", Chips::busy, "1-5", WireLoops.TAKEN);
        refused("pad of the list", WireLoops::new, "0-1,0-2", WireLoops.TAKEN);
        refused("lead of the list", WireLoops::new, "0-1,1-1", WireLoops.TAKEN);
        refused("the same wire twice", WireLoops::new, "0-1,0-1", WireLoops.TAKEN);
        refused("ahead of NO_TAIL", Chips::spent, "11-0", WireLoops.TAKEN);
        refused("ahead of NO_TAIL in the list", WireLoops::new, "0-0,1-1,2-2,3-3,4-4,5-5,6-6,6-7", WireLoops.TAKEN);
        refused("ahead of WORN in the list", () -> Chips.worn(198), "0-0,0-1", WireLoops.TAKEN);
        refused("all pads", Chips::full, "4-15", WireLoops.TAKEN);
    }

    private void noTail() {
        WireLoops x = Chips.withText("0-0,1-1,2-2,3-3,4-4,5-5,6-6");
        of.due("the 7th is laid", x.layAll(), 7);
        of.due("and the tail is lost", x.count(5), 1);
        refused("the 8th", WireLoops::new, "0-0,1-1,2-2,3-3,4-4,5-5,6-6,7-7", WireLoops.NO_TAIL);
        refused("the 7th and 8th", () -> Chips.withWires(6), "7-7,8-8", WireLoops.NO_TAIL);
        refused("at once", () -> Chips.withWires(7), "9-9", WireLoops.NO_TAIL);
        refused("ahead of WORN", Chips::spent, "0-0", WireLoops.NO_TAIL);
        // The 8th wire is the first one that can't be laid.
        refused("ahead of a later TAKEN", WireLoops::new, "0-0,1-1,2-2,3-3,4-4,5-5,6-6,7-7,0-8", WireLoops.NO_TAIL);
        x = Chips.withWires(7);
        x.thread();
        of.due("threaded", layAll(x, "9-9"), 8);
        of.due("the 9th to the 12th", layAll(x, "7-7,8-8,10-10,11-11"), 12);
    }

    private void worn() {
        refused("at once", () -> Chips.worn(200), "0-0", WireLoops.WORN);
        refused("at the second one", () -> Chips.worn(194), "0-0:200,1-1:10", WireLoops.WORN);
        WireLoops x = Chips.worn(193);
        of.due("at 193 and 199", layAll(x, "0-0:200,1-1:10"), 2);
        of.due("wear", x.count(4), 201);
    }

    private void faultAheadOfAll() {
        refused("no text", Chips::spent, "", -100);
        refused("ahead of TAKEN", Chips::busy, "0-3,", -104);
        refused("ahead of NO_TAIL", () -> Chips.withWires(7), "9-9:9", -105);
        refused("ahead of WORN", () -> Chips.worn(200), "9-16", -103);
        refused("ahead of all", Chips::spent, "11-15,11-16", -110);
        refused("the last character of 80", Chips::spent, "11-0,".repeat(15) + "11-16", -179);
        refused("too early behind 80", Chips::spent, "11-0,".repeat(16), -180);
    }

    // ---- promise 12

    private void types() {
        WireLoops x = new WireLoops();
        x.type('7');
        x.type('-');
        x.type('3');
        of.due("7-3", x.layAll(), 1);
        of.due("7-3", x.wire(7, 0), 3);
        x.undo();
        x.type(':');
        x.type('9');
        x.type('0');
        of.due("7-3:90", x.layAll(), 1);
        of.due("7-3:90", x.wire(7, 1), 90);
        of.due("no act, but that of layAll", x.count(12), 1);
    }

    private void anyCharacter() {
        for (int first = 0; first < 65536; first += 64) {
            WireLoops x = new WireLoops();
            for (int i = 0; i < 64; i++) {
                of.due("character " + (first + i), x.type((char) (first + i)), i + 1);
            }
        }
        WireLoops x = Chips.withText("0-1");
        x.type('\0');
        of.due("a character 0 does not end the text", x.layAll(), -103);
        x = Chips.withText("0-1");
        x.type('\n');
        of.due("nor does an end of a line", x.layAll(), -103);
        x = Chips.withText("0-1");
        x.type('\b');
        of.due("nor is one taken back", x.layAll(), -103);
    }

    private void typeAnswers() {
        WireLoops x = new WireLoops();
        for (int length = 1; length <= 80; length++) {
            of.due("length " + length, x.type(length % 4 == 2 ? '-' : length % 4 == 0 ? ',' : '0'), length);
        }
        of.due("the 81st", x.type('0'), WireLoops.FULL);
        of.due("and again", x.type('0'), WireLoops.FULL);
        of.due("the text as it was, with \",\" at its end", x.layAll(), -180);
        of.refused("full", () -> Chips.withText("1".repeat(80)), y -> y.type('1'), WireLoops.FULL);
        x.clearText();
        of.due("room again", x.type('0'), 1);
    }

    // ---- promise 13

    private void clears() {
        WireLoops x = Chips.withText("0-1,2-3");
        x.clearText();
        of.due("empty", x.count(13), 0);
        of.due("the fault of the empty text", x.layAll(), -100);
        Chips.type(x, "4-5");
        of.due("nothing is left of the old text", x.layAll(), 1);
        of.due("the new wire", x.wire(4, 0), 5);
        of.due("no act, but that of layAll", x.count(12), 1);
        x.undo();
        of.due("undo leaves the text", x.count(13), 3);
        x.clearText();
        Chips.type(x, "0-1,2-");
        of.due("a fault where the old text went on", x.layAll(), -106);
    }

    private void clearTextAnswers() {
        WireLoops x = new WireLoops();
        of.due("empty at first", x.clearText(), 0);
        x.type('x');
        of.due("one", x.clearText(), 1);
        of.due("empty already", x.clearText(), 0);
        Chips.type(x, "x".repeat(79));
        of.due("79", x.clearText(), 79);
        Chips.type(x, "x".repeat(80));
        of.due("80", x.clearText(), 80);
        Chips.type(x, "x".repeat(81));
        of.due("80 of 81", x.clearText(), 80);
    }
}
