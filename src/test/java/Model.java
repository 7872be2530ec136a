import java.util.ArrayList;
import java.util.List;
import java.util.TreeMap;
import java.util.regex.Matcher;
import java.util.regex.Pattern;

/** The document once more, in another way and with the whole library: what random runs are compared with. */
final class Model {
    private static final Pattern LIST = Pattern.compile(wirePattern() + "(?:," + wirePattern() + ")*");
    private static final Pattern WIRE = Pattern.compile("(\\d+)-(\\d+)(?::(\\d+))?");

    private record Wire(int lead, int height, int strength, int number) {
    }

    private static final class State {
        final TreeMap<Integer, Wire> wires = new TreeMap<>();
        final int[] leads = new int[16];
        int laid;
        int width = 10;
        int wear;
        int tools;
        boolean lost;
        int losses;
        int broken;

        State copy() {
            State copy = new State();
            copy.wires.putAll(wires);
            System.arraycopy(leads, 0, copy.leads, 0, 16);
            copy.laid = laid;
            copy.width = width;
            copy.wear = wear;
            copy.tools = tools;
            copy.lost = lost;
            copy.losses = losses;
            copy.broken = broken;
            return copy;
        }
    }

    private State now = new State();
    private State kept;
    private final List<State> history = new ArrayList<>();
    private String text = "";

    Model() {
        for (int lead = 0; lead < 16; lead++) {
            now.leads[lead] = lead * 40;
        }
    }

    private static String wirePattern() {
        return "(?:11|10|[0-9])-(?:1[0-5]|[0-9])(?::(?:200|1[0-9][0-9]|[1-9][0-9]))?";
    }

    private void record(State before) {
        history.add(before);
        if (history.size() > 4) {
            history.remove(0);
        }
    }

    // ---- acts

    int lay(int pad, int lead, int height) {
        if (pad < 0 || pad > 11 || lead < 0 || lead > 15) {
            return -1;
        }
        if (height < 10 || height > 200) {
            return -2;
        }
        State then = now.copy();
        int answer = layOn(then, pad, lead, height);
        if (answer >= 0) {
            record(now);
            now = then;
        }
        return answer;
    }

    private static int layOn(State state, int pad, int lead, int height) {
        if (state.wires.containsKey(pad) || state.wires.values().stream().anyMatch(w -> w.lead() == lead)) {
            return -4;
        }
        if (state.lost) {
            return -6;
        }
        if (state.wear >= 200) {
            return -7;
        }
        int strength = 100;
        for (int worn = 4; worn <= state.wear; worn += 4) {
            strength--;
        }
        for (int way = 20; way <= Math.abs(100 + 20 * pad - state.leads[lead]); way += 20) {
            strength--;
        }
        state.wires.put(pad, new Wire(lead, height, strength, state.laid));
        state.laid++;
        state.wear += 2 + height / 50;
        if (state.laid % 7 == 0) {
            state.lost = true;
            state.losses++;
        }
        return strength;
    }

    int layAll() {
        if (!LIST.matcher(text).matches()) {
            int good = 0;
            while (good < text.length() && isBeginning(text.substring(0, good + 1))) {
                good++;
            }
            return -100 - good;
        }
        State then = now.copy();
        Matcher matcher = WIRE.matcher(text);
        while (matcher.find()) {
            int height = matcher.group(3) == null ? 60 : Integer.parseInt(matcher.group(3));
            int lead = Integer.parseInt(matcher.group(2));
            int answer = layOn(then, Integer.parseInt(matcher.group(1)), lead, height);
            if (answer < 0) {
                return answer;
            }
        }
        record(now);
        now = then;
        return now.wires.size();
    }

    private static boolean isBeginning(String characters) {
        Matcher matcher = LIST.matcher(characters);
        return matcher.matches() || matcher.hitEnd();
    }

    int takeOff(int pad) {
        Wire wire = now.wires.get(pad);
        if (wire == null) {
            return -1;
        }
        record(now.copy());
        now.wires.remove(pad);
        return wire.strength();
    }

    int bend(int pad, int height) {
        Wire wire = now.wires.get(pad);
        if (wire == null) {
            return -1;
        }
        if (height < 10 || height > 200) {
            return -2;
        }
        if (wire.height() == height) {
            return -5;
        }
        record(now.copy());
        now.wires.put(pad, new Wire(wire.lead(), height, wire.strength(), wire.number()));
        return wire.height();
    }

    int moveLead(int lead, int x) {
        if (lead < 0 || lead > 15) {
            return -1;
        }
        if (x < 0 || x > 600) {
            return -2;
        }
        if (now.wires.values().stream().anyMatch(w -> w.lead() == lead)) {
            return -4;
        }
        int previous = now.leads[lead];
        if (previous == x) {
            return -5;
        }
        record(now.copy());
        now.leads[lead] = x;
        return previous;
    }

    int setWidth(int width) {
        if (width < 1 || width > 50) {
            return -2;
        }
        int previous = now.width;
        if (previous == width) {
            return -5;
        }
        record(now.copy());
        now.width = width;
        return previous;
    }

    int changeTool() {
        int wear = now.wear;
        if (wear == 0) {
            return -5;
        }
        record(now.copy());
        now.wear = 0;
        now.tools++;
        return wear;
    }

    int thread() {
        if (!now.lost) {
            return -5;
        }
        record(now.copy());
        now.lost = false;
        return now.losses;
    }

    int pull(int pad, int force) {
        if (!now.wires.containsKey(pad)) {
            return -1;
        }
        if (force < 1 || force > 100) {
            return -2;
        }
        record(now.copy());
        return pullNow(pad, force);
    }

    private int pullNow(int pad, int force) {
        Wire wire = now.wires.get(pad);
        if (wire.strength() < force) {
            now.wires.remove(pad);
            now.broken++;
            return 1000;
        }
        int strength = Math.max(0, wire.strength() - force / 10);
        now.wires.put(pad, new Wire(wire.lead(), wire.height(), strength, wire.number()));
        return strength;
    }

    int sample(int every, int force) {
        if (every < 1 || every > 12 || force < 1 || force > 100) {
            return -2;
        }
        if (now.wires.isEmpty()) {
            return -5;
        }
        record(now.copy());
        List<Integer> pads = new ArrayList<>(now.wires.keySet());
        int breaking = 0;
        for (int i = 0; i < pads.size(); i += every) {
            breaking += pullNow(pads.get(i), force) == 1000 ? 1 : 0;
        }
        return breaking;
    }

    // ---- texts, history

    int type(char character) {
        if (text.length() >= 80) {
            return -3;
        }
        text += character;
        return text.length();
    }

    int clearText() {
        int length = text.length();
        text = "";
        return length;
    }

    int undo() {
        if (history.isEmpty()) {
            return -5;
        }
        now = history.remove(history.size() - 1);
        return history.size();
    }

    int keep() {
        kept = now.copy();
        return now.wires.size();
    }

    int restore() {
        if (kept == null) {
            return -5;
        }
        record(now);
        now = kept.copy();
        return now.wires.size();
    }

    // ---- what is told

    /** Where the two cross, or -5. */
    private int crossingY(int one, int other) {
        int low = Math.min(one, other);
        int high = Math.max(one, other);
        int leads = now.leads[now.wires.get(low).lead()] - now.leads[now.wires.get(high).lead()];
        if (low == high || leads <= 0) {
            return -5;
        }
        int y = 200;
        while (y * (20 * (high - low) + leads) > 200 * 20 * (high - low)) {
            y--;
        }
        return y;
    }

    private static int loop(int height, int y) {
        int loop = 0;
        while ((loop + 1) * 10000L <= (long) height * y * (200 - y)) {
            loop++;
        }
        return loop;
    }

    private List<Integer> gaps(int pad, int height) {
        List<Integer> gaps = new ArrayList<>();
        for (int other : now.wires.keySet()) {
            int y = crossingY(pad, other);
            if (y >= 0) {
                gaps.add(Math.abs(loop(height, y) - loop(now.wires.get(other).height(), y)));
            }
        }
        return gaps;
    }

    private int shortOnes(int pad, int height) {
        return (int) gaps(pad, height).stream().filter(gap -> gap < now.width).count();
    }

    int wire(int pad, int what) {
        Wire wire = now.wires.get(pad);
        if (wire == null) {
            return -1;
        }
        List<Integer> gaps = gaps(pad, wire.height());
        return switch (what) {
            case 0 -> wire.lead();
            case 1 -> wire.height();
            case 2 -> wire.strength();
            case 3 -> gaps.size();
            case 4 -> shortOnes(pad, wire.height());
            case 5 -> gaps.stream().min(Integer::compare).orElse(-5);
            case 6 -> wire.number();
            default -> -2;
        };
    }

    int heightAt(int pad, int y) {
        if (!now.wires.containsKey(pad)) {
            return -1;
        }
        return y < 0 || y > 200 ? -2 : loop(now.wires.get(pad).height(), y);
    }

    int crossing(int one, int other, int what) {
        if (!now.wires.containsKey(one) || !now.wires.containsKey(other)) {
            return -1;
        }
        if (what < 0 || what > 2) {
            return -2;
        }
        int y = crossingY(one, other);
        if (y < 0 || what == 0) {
            return y;
        }
        int gap = Math.abs(loop(now.wires.get(one).height(), y) - loop(now.wires.get(other).height(), y));
        return what == 1 ? gap : gap < now.width ? 1 : 0;
    }

    int lead(int lead, int what) {
        if (lead < 0 || lead > 15) {
            return -1;
        }
        if (what == 1) {
            return now.wires.keySet().stream().filter(p -> now.wires.get(p).lead() == lead).findFirst().orElse(-5);
        }
        return what == 0 ? now.leads[lead] : -2;
    }

    int bestHeight(int pad, int what) {
        if (!now.wires.containsKey(pad)) {
            return -1;
        }
        if (what != 0 && what != 1) {
            return -2;
        }
        int best = 200;
        for (int height = 200; height >= 10; height--) {
            best = shortOnes(pad, height) <= shortOnes(pad, best) ? height : best;
        }
        return what == 0 ? best : shortOnes(pad, best);
    }

    int laysLeft(int height) {
        if (height < 10 || height > 200) {
            return -2;
        }
        State then = now.copy();
        int lays = 0;
        while (true) {
            then.wires.clear();
            if (layOn(then, 0, 0, height) < 0) {
                return lays;
            }
            lays++;
        }
    }

    int count(int what) {
        int crossings = 0;
        int shortOnes = 0;
        int weakest = -5;
        int sum = 0;
        for (int pad : now.wires.keySet()) {
            Wire wire = now.wires.get(pad);
            crossings += gaps(pad, wire.height()).size();
            shortOnes += shortOnes(pad, wire.height());
            weakest = weakest < 0 || wire.strength() < now.wires.get(weakest).strength() ? pad : weakest;
            sum += wire.strength();
        }
        int[] counts = {
            now.wires.size(), now.laid, crossings / 2, shortOnes / 2, now.wear, now.lost ? 1 : 0, now.losses,
            now.width, now.broken, weakest, sum, now.tools, history.size(), text.length(),
        };
        return what < 0 || what >= counts.length ? -2 : counts[what];
    }
}
