import java.io.IOException;
import java.util.ArrayList;
import java.util.HashSet;
import java.util.List;
import java.util.Map;
import java.util.Set;
import java.util.function.Supplier;
import java.util.function.ToIntFunction;

/** Runs tests that are named by the sentences of the document, and tells at the end which sentence has none. */
final class Sentences {
    private final Map<String, List<String>> document;
    private final Set<String> tested = new HashSet<>();
    private final Check check = new Check("SentencesTest");
    private String section = "";
    private String sentence = "";

    Sentences() throws IOException {
        document = Document.sections();
    }

    /** The section that the next tests' sentences stand in. */
    void section(String name) {
        section = name;
    }

    void test(String named, Runnable test) {
        sentence = named;
        boolean stands = document.getOrDefault(section, List.of()).contains(named);
        due("the sentence stands in the document (1)", stands ? 1 : 0, 1);
        int before = check.calls();
        test.run();
        due("the test looks at an answer (1)", Math.min(1, check.calls() - before), 1);
        tested.add(section + ": " + named);
    }

    /** Each sentence of the document has a test, but for those that begin as told here. */
    void end(String... untested) {
        section = "The document";
        sentence = "each sentence has a test (1)";
        for (Map.Entry<String, List<String>> part : document.entrySet()) {
            for (String named : part.getValue()) {
                if (!beginsWithOne(named, untested)) {
                    due(part.getKey() + ": " + named, tested.contains(part.getKey() + ": " + named) ? 1 : 0, 1);
                }
            }
        }
        check.end();
    }

    private static boolean beginsWithOne(String named, String[] beginnings) {
        for (String beginning : beginnings) {
            if (named.startsWith(beginning)) {
                return true;
            }
        }
        return false;
    }

    // ---- what tests look at

    void due(String call, int got, int want) {
        check.due(section + ": \"" + sentence + "\": " + call, got, want);
    }

    void same(String what, String got, String want) {
        check.same(section + ": \"" + sentence + "\": " + what, got, want);
    }

    /** The call's answer, and that it changes nothing: neither the state, nor history, snapshot and text. */
    void refused(String call, Supplier<WireLoops> made, ToIntFunction<WireLoops> calling, int answer) {
        due(call, calling.applyAsInt(made.get()), answer);
        same(call + " changes nothing", Chips.whole(() -> called(made, calling)), Chips.whole(made));
    }

    /** The call's answer, and that it records the state before it, once, and leaves snapshot and text. */
    void act(String call, Supplier<WireLoops> made, ToIntFunction<WireLoops> calling, int answer) {
        due(call, calling.applyAsInt(made.get()), answer);
        List<String> past = new ArrayList<>();
        past.add(Chips.brief(made.get()));
        past.addAll(Chips.past(made.get()));
        if (past.size() > 4) {
            past.remove(4);
        }
        same(call + " records the state before it", Chips.past(called(made, calling)).toString(), past.toString());
        WireLoops undone = called(made, calling);
        undone.undo();
        same(call + " leaves snapshot and text", Chips.snapshotAndText(undone), Chips.snapshotAndText(made.get()));
    }

    private static WireLoops called(Supplier<WireLoops> made, ToIntFunction<WireLoops> calling) {
        WireLoops x = made.get();
        calling.applyAsInt(x);
        return x;
    }
}
