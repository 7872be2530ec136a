/** Runs of up to 512 calls, the same ones each time, each answer compared with the model's. */
public final class RandomRunsTest {
    private static final Check CHECK = new Check("RandomRunsTest");
    private static final int RUNS = 800;
    private static final int MOST_CALLS = 512;
    // Typing a wire takes the most.
    private static final int CALLS_OF_A_STEP = 10;

    /** takeOff, thread, lay. */
    private static final int[] LAYING = {0, 0, 10, 11, 11};

    private long seed = 20261119;
    private WireLoops x;
    private Model model;
    private int calls;

    public static void main(String[] args) {
        RandomRunsTest test = new RandomRunsTest();
        for (int run = 0; run < RUNS; run++) {
            test.run(run);
        }
        CHECK.end();
    }

    private void run(int run) {
        x = new WireLoops();
        model = new Model();
        calls = 0;
        for (int step = 0; calls <= MOST_CALLS - CALLS_OF_A_STEP && step < MOST_CALLS; step++) {
            String at = "run " + run + ", call " + calls + ": ";
            int kind = draw(run % 3 == 0 ? 40 : 30);
            if (run % 3 == 1 && (draw(2) == 0 || wearsLess(kind) && draw(20) != 0)) {
                kind = LAYING[draw(LAYING.length)];
            }
            if (kind < 11) {
                act(at, kind);
            } else if (kind < 18) {
                layOrText(at, kind);
            } else if (kind < 30) {
                tell(at, kind);
            } else {
                layOrText(at, 11);
            }
        }
    }

    /** Without most of these (and of the texts) the tool is worn out within a run. */
    private static boolean wearsLess(int kind) {
        return kind == 4 || kind == 7 || kind == 9 || kind == 16 || kind == 17;
    }

    private void due(String call, int got, int want) {
        calls++;
        CHECK.due(call, got, want);
    }

    private int draw(int bound) {
        seed = seed * 6364136223846793005L + 1442695040888963407L;
        return (int) ((seed >>> 33) % bound);
    }

    /** Mostly within the range, at times just beyond it, or far away. */
    private int number(int least, int most) {
        switch (draw(60)) {
            case 0:
                return least - 1;
            case 1:
                return most + 1;
            case 2:
                return draw(2) == 0 ? Integer.MIN_VALUE : Integer.MAX_VALUE;
            case 3:
                return least;
            case 4:
                return most;
            default:
                return least + draw(most - least + 1);
        }
    }

    private int pad() {
        return number(0, 11);
    }

    private int lead() {
        return number(0, 15);
    }

    private void act(String at, int kind) {
        int pad = pad();
        int lead = lead();
        int height = number(10, 200);
        int force = draw(4) == 0 ? number(1, 100) : number(1, 60);
        switch (kind) {
            case 0:
                due(at + "takeOff " + pad, x.takeOff(pad), model.takeOff(pad));
                break;
            case 1:
                due(at + "bend " + pad + " " + height, x.bend(pad, height), model.bend(pad, height));
                break;
            case 2:
                moveLead(at, lead, draw(2) == 0 ? number(0, 600) : 40 * lead);
                break;
            case 3:
                setWidth(at, number(1, 50));
                break;
            case 4:
                due(at + "changeTool", x.changeTool(), model.changeTool());
                break;
            case 5:
                due(at + "pull " + pad + " " + force, x.pull(pad, force), model.pull(pad, force));
                break;
            case 6:
                sample(at, number(1, 12), force);
                break;
            case 7:
                due(at + "undo", x.undo(), model.undo());
                break;
            case 8:
                due(at + "keep", x.keep(), model.keep());
                break;
            case 9:
                due(at + "restore", x.restore(), model.restore());
                break;
            default:
                due(at + "thread", x.thread(), model.thread());
                break;
        }
    }

    private void moveLead(String at, int lead, int place) {
        due(at + "moveLead " + lead + " " + place, x.moveLead(lead, place), model.moveLead(lead, place));
    }

    private void setWidth(String at, int width) {
        due(at + "setWidth " + width, x.setWidth(width), model.setWidth(width));
    }

    private void sample(String at, int every, int force) {
        due(at + "sample " + every + " " + force, x.sample(every, force), model.sample(every, force));
    }

    private void layOrText(String at, int kind) {
        if (kind < 15) {
            int pad = pad();
            int lead = lead();
            int height = draw(2) == 0 ? number(150, 200) : number(10, 200);
            due(at + "lay " + pad + " " + lead + " " + height,
                x.lay(pad, lead, height), model.lay(pad, lead, height));
        } else if (kind == 15) {
            due(at + "layAll", x.layAll(), model.layAll());
        } else if (draw(3) == 0) {
            due(at + "clearText", x.clearText(), model.clearText());
            typeWire(at);
        } else {
            typeWire(at);
        }
    }

    /** A wire of a list, at times with a character that is left out, put in, or another one. */
    private void typeWire(String at) {
        StringBuilder wire = new StringBuilder();
        if (model.count(13) > 0) {
            wire.append(',');
        }
        wire.append(draw(12)).append('-').append(draw(16));
        if (draw(2) == 0) {
            wire.append(':').append(number(10, 200));
        }
        if (draw(5) == 0) {
            int index = draw(wire.length());
            char character = "0123456789-:,x".charAt(draw(14));
            switch (draw(3)) {
                case 0:
                    wire.deleteCharAt(index);
                    break;
                case 1:
                    wire.insert(index, character);
                    break;
                default:
                    wire.setCharAt(index, character);
                    break;
            }
        }
        for (int i = 0; i < wire.length() && i < 9; i++) {
            char character = wire.charAt(i);
            due(at + "type " + character, x.type(character), model.type(character));
        }
    }

    private void tell(String at, int kind) {
        int pad = pad();
        int other = pad();
        int y = number(0, 200);
        int what = number(0, 13);
        switch (kind) {
            case 18:
            case 19:
                what = number(0, 6);
                due(at + "wire " + pad + " " + what, x.wire(pad, what), model.wire(pad, what));
                break;
            case 20:
                due(at + "heightAt " + pad + " " + y, x.heightAt(pad, y), model.heightAt(pad, y));
                break;
            case 21:
            case 22:
                what = number(0, 2);
                due(at + "crossing " + pad + " " + other + " " + what,
                    x.crossing(pad, other, what), model.crossing(pad, other, what));
                break;
            case 23:
                int lead = lead();
                what = number(0, 1);
                due(at + "lead " + lead + " " + what, x.lead(lead, what), model.lead(lead, what));
                break;
            case 24:
            case 25:
                what = number(0, 1);
                due(at + "bestHeight " + pad + " " + what, x.bestHeight(pad, what), model.bestHeight(pad, what));
                break;
            case 26:
                int height = number(10, 200);
                due(at + "laysLeft " + height, x.laysLeft(height), model.laysLeft(height));
                break;
            default:
                due(at + "count " + what, x.count(what), model.count(what));
                break;
        }
    }
}
