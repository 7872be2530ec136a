/** Promises 8 to 11, sentence by sentence: changeTool, thread, pull, sample. */
final class PromisesOfTool {
    private static final int UNKNOWN = WireLoops.UNKNOWN;
    private static final int BAD_VALUE = WireLoops.BAD_VALUE;
    private static final int NONE = WireLoops.NONE;

    private final Sentences of;

    PromisesOfTool(Sentences of) {
        this.of = of;
    }

    void all() {
        of.section("Promise 8");
        of.test("`int changeTool()`: Changes the tool.", this::changesTool);
        of.test("This is an act.", this::changeToolIsAnAct);
        of.test("Returns the wear of the old one; NONE if it had none.", this::changeToolAnswers);
        of.section("Promise 9");
        of.test("`int thread()`: Threads the tail anew.", this::threads);
        of.test("This is an act.", this::threadIsAnAct);
        of.test("Returns how often it was lost so far; NONE if it is not lost.", this::threadAnswers);
        pull();
        sample();
    }

    private void pull() {
        of.section("Promise 10");
        of.test("`int pull(int pad, int force)`: Pulls a wire.", this::pulls);
        of.test("This is an act.", this::pullIsAnAct);
        of.test("`pad`: 0 to 11", this::pullPad);
        of.test("`force`: 1 to 100", this::pullForce);
        of.test("Returns its strength then; UNKNOWN if the pad has none; BAD_VALUE; 1000 if it breaks.",
            this::pullAnswers);
    }

    private void sample() {
        of.section("Promise 11");
        String pulls = "`int sample(int every, int force)`: Pulls each so many-th wire of those that there are ahead of"
            + " it, by their pads: the first one, then the one so many behind it, and so on.";
        of.test(pulls, this::samplesOfTwelve);
        of.test(pulls, this::samplesOfFew);
        of.test(pulls, this::samplePulls);
        of.test("This is an act.", this::sampleIsAnAct);
        of.test("`every`: 1 to 12", this::sampleEvery);
        of.test("`force`: 1 to 100", this::sampleForce);
        of.test("Returns how many break; BAD_VALUE; NONE if there are no wires.", this::sampleAnswers);
    }

    // ---- promise 8

    private void changesTool() {
        WireLoops x = Chips.busy();
        of.due("one so far", x.count(11), 1);
        x.changeTool();
        of.due("no wear", x.count(4), 0);
        of.due("two so far", x.count(11), 2);
        of.due("strengths stay", x.wire(3, 2), 95);
        of.due("wires so far stay", x.count(1), 8);
        of.due("as strong as with a new tool", x.lay(1, 3, 60), 100);
        x = Chips.spent();
        x.changeTool();
        of.due("the tail is lost still", x.lay(0, 0, 60), WireLoops.NO_TAIL);
    }

    private void changeToolIsAnAct() {
        of.act("changeTool", Chips::busy, x -> x.changeTool(), 6);
        of.act("changeTool of a worn one", Chips::spent, x -> x.changeTool(), 200);
    }

    private void changeToolAnswers() {
        of.refused("a new one", WireLoops::new, x -> x.changeTool(), NONE);
        WireLoops x = new WireLoops();
        x.lay(0, 0, 10);
        of.due("the least wear", x.changeTool(), 2);
        of.due("changed already", x.changeTool(), NONE);
        of.due("one so far", x.count(11), 1);
        x.undo();
        of.due("worn as ahead of it", x.changeTool(), 2);
        x = Chips.worn(199);
        x.lay(0, 0, 200);
        of.due("the greatest wear", x.changeTool(), 205);
    }

    // ---- promise 9

    private void threads() {
        WireLoops x = Chips.withWires(7);
        of.due("lost", x.lay(7, 7, 10), WireLoops.NO_TAIL);
        x.thread();
        of.due("not lost", x.count(5), 0);
        of.due("how often stays", x.count(6), 1);
        of.due("the wear stays", x.count(4), 14);
        of.due("the wires stay", x.count(0), 7);
        of.due("seven more", x.laysLeft(10), 7);
        of.due("another one is laid", Math.min(0, x.lay(7, 7, 10)), 0);
    }

    private void threadIsAnAct() {
        of.act("thread", Chips::spent, x -> x.thread(), 5);
        of.act("thread for the first time", () -> Chips.withWires(7), x -> x.thread(), 1);
    }

    private void threadAnswers() {
        of.refused("not lost, none laid", WireLoops::new, x -> x.thread(), NONE);
        of.refused("not lost behind the 6th", () -> Chips.withWires(6), x -> x.thread(), NONE);
        of.refused("not lost behind the 8th", Chips::busy, x -> x.thread(), NONE);
        for (int times = 1; times <= 10; times++) {
            of.due("lost behind wire " + 7 * times, Chips.laidSoFar(7 * times).thread(), times);
            of.due("ahead of it", Chips.laidSoFar(7 * times - 1).thread(), NONE);
            of.due("behind the next one", Chips.laidSoFar(7 * times + 1).thread(), NONE);
        }
        WireLoops x = Chips.withWires(7);
        of.due("lost once", x.thread(), 1);
        of.due("threaded already", x.thread(), NONE);
        x.undo();
        of.due("lost once, undone and threaded", x.thread(), 1);
    }

    // ---- promise 10

    private void pulls() {
        WireLoops x = Chips.busy();
        x.pull(3, 40);
        int[] due = {2, 100, 91, 2, 1, 0, 1};
        for (int what = 0; what < due.length; what++) {
            of.due("wire(3, " + what + ")", x.wire(3, what), due[what]);
        }
        of.due("another one's strength", x.wire(0, 2), 95);
        of.due("no wear", x.count(4), 6);
        x = Chips.spent();
        of.due("without tail and tool", x.pull(11, 37), 34);
    }

    private void pullIsAnAct() {
        of.act("pull that holds", Chips::busy, x -> x.pull(3, 95), 86);
        of.act("pull that breaks", Chips::busy, x -> x.pull(3, 96), 1000);
        of.act("pull that weakens nothing", Chips::busy, x -> x.pull(3, 9), 95);
    }

    private void pullPad() {
        for (int pad = 0; pad < 12; pad++) {
            WireLoops x = Chips.full();
            int strength = x.wire(pad, 2);
            int sum = x.count(10);
            of.due("pad " + pad, x.pull(pad, 10), strength - 1);
            of.due("pulled alone", x.count(10), sum - 1);
        }
        for (int pad : Chips.beyond(0, 11)) {
            of.refused("pad " + pad, Chips::full, x -> x.pull(pad, 10), UNKNOWN);
        }
    }

    private void pullForce() {
        for (int force = 1; force <= 95; force++) {
            of.due("force " + force, Chips.busy().pull(0, force), 95 - force / 10);
        }
        for (int force = 96; force <= 100; force++) {
            of.due("force " + force, Chips.busy().pull(0, force), 1000);
        }
        for (int force : Chips.beyond(1, 100)) {
            of.refused("force " + force, Chips::busy, x -> x.pull(0, force), BAD_VALUE);
        }
    }

    private void pullAnswers() {
        WireLoops x = Chips.busy();
        of.due("its strength then", x.pull(0, 95), 86);
        of.due("its strength then, again", x.pull(0, 86), 78);
        of.due("it breaks", x.pull(0, 79), 1000);
        of.due("it is gone", x.pull(0, 79), UNKNOWN);
        of.refused("no wire", Chips::busy, y -> y.pull(1, 10), UNKNOWN);
        of.refused("no wires", WireLoops::new, y -> y.pull(0, 10), UNKNOWN);
        of.refused("UNKNOWN ahead of BAD_VALUE", Chips::busy, y -> y.pull(1, 0), UNKNOWN);
        of.refused("BAD_VALUE", Chips::busy, y -> y.pull(0, 101), BAD_VALUE);
    }

    // ---- promise 11

    private void samplesOfTwelve() {
        for (int every = 1; every <= 12; every++) {
            WireLoops x = Chips.full();
            int due = 0;
            for (int pad = 0; pad < 12; pad++) {
                due += pad % every == 0 ? 1 : 0;
            }
            of.due("break of every " + every, x.sample(every, 100), due);
            for (int pad = 0; pad < 12; pad++) {
                of.due("every " + every + ", pad " + pad, x.wire(pad, 0), pad % every == 0 ? UNKNOWN : pad);
            }
        }
    }

    /** By the wires that there are ahead of it, neither by the pads' numbers nor by when they were laid. */
    private void samplesOfFew() {
        int[] pads = {2, 5, 7, 9};
        for (int every = 1; every <= 12; every++) {
            WireLoops x = new WireLoops();
            x.lay(9, 0, 60);
            x.lay(2, 1, 60);
            x.lay(7, 2, 60);
            x.lay(5, 3, 60);
            x.sample(every, 100);
            for (int i = 0; i < 4; i++) {
                of.due("every " + every + ", pad " + pads[i], x.wire(pads[i], 1), i % every == 0 ? UNKNOWN : 60);
            }
        }
        WireLoops x = new WireLoops();
        x.lay(11, 15, 60);
        of.due("one wire, of the last pad", x.sample(12, 100), 1);
    }

    private void samplePulls() {
        WireLoops x = new WireLoops();
        x.lay(3, 4, 10);
        x.lay(4, 5, 10);
        x.lay(0, 15, 10);
        of.due("force as the strength of the first one", x.sample(2, 74), 0);
        of.due("the first one is weaker by 7", x.wire(0, 2), 67);
        of.due("the second one is not pulled", x.wire(3, 2), 100);
        of.due("the third one is weaker by 7", x.wire(4, 2), 92);
        of.due("one more than the strength of the first one", x.sample(2, 68), 1);
        of.due("the first one is gone", x.wire(0, 2), UNKNOWN);
        of.due("and its lead is free", x.lead(15, 1), NONE);
        of.due("the next one does not move up", x.wire(3, 2), 100);
        of.due("the third one is weaker by 6", x.wire(4, 2), 86);
        of.due("broke so far", x.count(8), 1);
        of.due("no wear", x.count(4), 6);
        of.due("not weaker by 9", x.sample(1, 9), 0);
        of.due("sum", x.count(10), 186);
        of.due("weaker by 1 each", x.sample(1, 10), 0);
        of.due("sum", x.count(10), 184);
    }

    private void sampleIsAnAct() {
        of.act("sample that breaks", Chips::busy, x -> x.sample(2, 100), 3);
        of.act("sample that holds", Chips::busy, x -> x.sample(2, 50), 0);
        of.act("sample that weakens nothing", Chips::busy, x -> x.sample(1, 1), 0);
        of.act("sample of twelve", Chips::full, x -> x.sample(1, 100), 12);
    }

    private void sampleEvery() {
        for (int every = 1; every <= 12; every++) {
            of.due("every " + every, Chips.full().sample(every, 100), (11 + every) / every);
        }
        for (int every : Chips.beyond(1, 12)) {
            of.refused("every " + every, Chips::busy, x -> x.sample(every, 100), BAD_VALUE);
        }
    }

    private void sampleForce() {
        int[] forces = {1, 2, 99, 100};
        for (int force : forces) {
            WireLoops x = new WireLoops();
            x.lay(3, 4, 60);
            of.due("force " + force, x.sample(1, force), 0);
            of.due("strength behind force " + force, x.wire(3, 2), 100 - force / 10);
        }
        for (int force : Chips.beyond(1, 100)) {
            of.refused("force " + force, Chips::busy, x -> x.sample(1, force), BAD_VALUE);
        }
    }

    private void sampleAnswers() {
        WireLoops x = Chips.busy();
        of.due("none breaks", x.sample(1, 50), 0);
        of.due("all break", x.sample(1, 100), 6);
        of.due("seven broke so far", x.count(8), 7);
        of.due("no wires are left", x.sample(1, 100), NONE);
        of.refused("no wires", WireLoops::new, y -> y.sample(1, 1), NONE);
        of.refused("every ahead of NONE", WireLoops::new, y -> y.sample(0, 1), BAD_VALUE);
        of.refused("force ahead of NONE", WireLoops::new, y -> y.sample(1, 0), BAD_VALUE);
    }
}
