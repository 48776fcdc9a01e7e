import java.util.ArrayList;
import java.util.BitSet;
import java.util.HashMap;
import java.util.HashSet;
import java.util.List;
import java.util.Map;
import java.util.Set;

/**
 * Runs tests that are named by a section of the document and a sentence in it. That the sentence
 * stands there is looked at too, so that a test cannot go on for a sentence that has changed; and
 * what no test is named by can be asked for, so that no sentence goes without one.
 */
final class Sentences {
    private final Checks checks;
    private final boolean running;
    private final Document document = new Document();
    private final Map<String, BitSet> named = new HashMap<>();
    private final Set<String> names = new HashSet<>();

    private Sentences(Checks checks, boolean running) {
        this.checks = checks;
        this.running = running;
    }

    static Sentences running(Checks checks) {
        return new Sentences(checks, true);
    }

    /** Takes note of the tests' names alone. */
    static Sentences listing(Checks checks) {
        return new Sentences(checks, false);
    }

    void test(String section, String sentence, Runnable body) {
        String name = section + ": " + sentence;
        int wrongBefore = checks.wrong();
        checks.holds(name + " (one test has this name)", names.add(name));
        checks.holds(name + " (the sentence stands in the document)", stands(section, sentence));
        if (running) {
            checks.fine(name, body);
            System.out.println((checks.wrong() == wrongBefore ? "ok     " : "WRONG  ") + name);
        }
    }

    private boolean stands(String section, String sentence) {
        if (!document.isThere()) {
            return true;
        }
        String saying = document.saying(section);
        BitSet marks = named.computeIfAbsent(section, key -> new BitSet());
        int at = saying.indexOf(sentence);
        boolean stands = at >= 0;
        while (at >= 0) {
            marks.set(at, at + sentence.length());
            at = saying.indexOf(sentence, at + 1);
        }
        return stands;
    }

    /** The words of a section that are part of no test's name. */
    List<String> withoutTest(String section) {
        String saying = document.saying(section);
        BitSet marks = named.getOrDefault(section, new BitSet());
        List<String> rest = new ArrayList<>();
        int from = marks.nextClearBit(0);
        while (from < saying.length()) {
            int to = marks.nextSetBit(from) < 0 ? saying.length() : marks.nextSetBit(from);
            String words = saying.substring(from, to).replaceAll("[^A-Za-z0-9]+", " ").trim();
            if (!words.isEmpty()) {
                rest.add(words);
            }
            from = marks.nextClearBit(to);
        }
        return rest;
    }
}
