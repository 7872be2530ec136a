import java.io.IOException;

/** The document, sentence by sentence; run from the project's directory. */
public final class SentencesTest {
    private SentencesTest() {
    }

    public static void main(String[] args) throws IOException {
        Sentences sentences = new Sentences();
        new TermsOfWires(sentences).all();
        new TermsOfTool(sentences).all();
        new TermsOfTexts(sentences).all();
        new TermsOfHistory(sentences).all();
        new TermsOfErrors(sentences).all();
        new PromisesOfWires(sentences).all();
        new PromisesOfTool(sentences).all();
        new PromisesOfTexts(sentences).all();
        new PromisesOfHistory(sentences).all();
        new PromisesOfTold(sentences).all();
        // What it is, the headings of the face, and what is not promised: no answer of a call is told there.
        sentences.end("Wire bonds on a chip: pads on its edge", "Ahead of the calls", "How the state is held",
            "Use of one object from several threads", "Nothing is promised beyond the answers");
    }
}
