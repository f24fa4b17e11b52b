import java.io.IOException;

/** The sentences of the document, one behind another, each with the answers that it asks for. */
final class Sentences {
    private static final int SECTIONS = 43;
    private final Check check;
    private final Document document;
    private String sentence = "";
    private boolean isTested = true;

    Sentences(String test) throws IOException {
        check = new Check(test);
        document = new Document();
        check.due("sections of the document", document.sectionCount(), SECTIONS);
    }

    /** From here on answers are those that these words ask for. */
    void of(String section, String words) {
        check.holds(sentence + " is tested", isTested);
        sentence = section + " \"" + words + "\"";
        isTested = false;
        check.holds(sentence + " stands in the document", document.quotes(section, words));
    }

    void ofTerms(String words) {
        of("Terms", words);
    }

    void ofPromise(int number, String words) {
        of("Promise " + number, words);
    }

    void due(String call, long got, long want) {
        isTested = true;
        check.due(sentence + ": " + call, got, want);
    }

    void holds(String what, boolean isSo) {
        due(what, isSo ? 1 : 0, 1);
    }

    /** A run on a new object. */
    Play play() {
        return new Play(this);
    }

    /** A run on a new object of which this text is taken. */
    Play play(String text) {
        return play().told(text);
    }

    void finish() {
        check.holds(sentence + " is tested", isTested);
        for (String words : document.unquoted()) {
            check.holds("a test of its own for " + words, false);
        }
        check.finish();
    }
}
