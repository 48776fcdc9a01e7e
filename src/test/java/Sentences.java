import java.io.IOException;
import java.io.UncheckedIOException;
import java.nio.file.Files;
import java.nio.file.Path;
import java.util.HashMap;
import java.util.HashSet;
import java.util.Map;
import java.util.Set;

/**
 * Runs tests that are named by a section of the document and a sentence in it. That the sentence
 * stands there is looked at too, so that a test cannot go on for a sentence that has changed.
 */
final class Sentences {
    private static final Path DOCUMENT = Path.of("../shared/DOC.md");

    private final Checks checks;
    private final Map<String, String> sections = new HashMap<>();
    private final Set<String> names = new HashSet<>();

    Sentences(Checks checks) {
        this.checks = checks;
        if (Files.isReadable(DOCUMENT)) {
            readSections();
        }
    }

    void test(String section, String sentence, Runnable body) {
        String name = section + ": " + sentence;
        int wrongBefore = checks.wrong();
        checks.holds(name + " (one test has this name)", names.add(name));
        checks.holds(name + " (the sentence stands in the document)", stands(section, sentence));
        checks.fine(name, body);
        System.out.println((checks.wrong() == wrongBefore ? "ok     " : "WRONG  ") + name);
    }

    private boolean stands(String section, String sentence) {
        return sections.isEmpty() || sections.getOrDefault(section, "").contains(sentence);
    }

    /** The key of a section is its heading up to a colon: 'Terms', 'Promise 1'. */
    private void readSections() {
        try {
            for (String section : Files.readString(DOCUMENT).split("(?m)^## ")) {
                String heading = section.lines().findFirst().orElse("");
                sections.put(heading.split(":")[0].trim(), section.replaceAll("\\s+", " "));
            }
        } catch (IOException e) {
            throw new UncheckedIOException(e);
        }
    }
}
