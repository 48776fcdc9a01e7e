import java.util.List;

/** That no sentence of the document goes without a test that is named by it. */
public final class DocumentTests {
    private static final Checks CHECKS = new Checks();

    public static void main(String[] args) {
        Sentences sentences = Sentences.listing(CHECKS);
        TermsTests.all(sentences);
        CoderTests.all(sentences);
        SentenceTests.all(sentences);
        if (new Document().isThere()) {
            noSentenceIsLeft(sentences);
        }
        CHECKS.end("DocumentTests");
    }

    /** What may be left are titles and small words, and what the document leaves free. */
    private static void noSentenceIsLeft(Sentences sentences) {
        left(sentences, "What it is", "what later calls answer is free");
        left(sentences, "Terms", "and", "WRITING", "READING");
        for (int promise = 1; promise <= 18; promise++) {
            left(sentences, "Promise " + promise);
        }
    }

    private static void left(Sentences sentences, String section, String... due) {
        CHECKS.same("words of " + section + " that no test is named by",
                sentences.withoutTest(section).toString(), List.of(due).toString());
    }
}
