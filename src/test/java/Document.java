import java.io.IOException;
import java.io.UncheckedIOException;
import java.nio.file.Files;
import java.nio.file.Path;
import java.util.ArrayList;
import java.util.LinkedHashMap;
import java.util.List;
import java.util.Map;
import java.util.TreeMap;

/** The document itself, by sections, so that tests can be held against its words. */
final class Document {
    private static final Path FILE = Path.of("../shared/DOC.md");

    private final String text;
    private final Map<String, String> sections = new LinkedHashMap<>();

    Document() {
        text = Files.isReadable(FILE) ? read(FILE) : "";
        for (String section : text.split("(?m)^## ")) {
            String heading = section.lines().findFirst().orElse("");
            sections.put(heading.split(":")[0].trim(), section.replaceAll("\\s+", " "));
        }
    }

    static String read(Path file) {
        try {
            return Files.readString(file);
        } catch (IOException e) {
            throw new UncheckedIOException(e);
        }
    }

    /** Without the document the other tests still say whether the class is as they are. */
    boolean isThere() {
        return !text.isEmpty();
    }

    /** A section is named by its heading up to a colon: 'Terms', 'Promise 1'. Blanks are single. */
    String section(String name) {
        return sections.getOrDefault(name, "");
    }

    /** The declarations inside the class of 'The public face', without their semicolons. */
    List<String> face() {
        String face = section("The public face");
        String inside = face.substring(face.indexOf('{') + 1, face.lastIndexOf('}'));
        List<String> declarations = new ArrayList<>();
        for (String one : inside.split(";")) {
            if (!one.isBlank()) {
                declarations.add(one.trim());
            }
        }
        return declarations;
    }

    /** The declaration that each promise begins with, by the number of the promise. */
    Map<Integer, String> declarations() {
        Map<Integer, String> declarations = new TreeMap<>();
        for (String name : sections.keySet()) {
            if (name.startsWith("Promise ")) {
                declarations.put(Integer.parseInt(name.substring(8)), section(name).split("`")[1]);
            }
        }
        return declarations;
    }

    /** What a section says: without its heading, its declaration and the table. */
    String saying(String name) {
        String section = section(name);
        if (name.startsWith("Promise ")) {
            return section.substring(section.indexOf("`: ") + 3);
        }
        return section.substring(name.length()).replace(tableRows(), "");
    }

    private String tableRows() {
        String terms = section("Terms");
        int begin = terms.indexOf("```text ");
        return terms.substring(begin, terms.indexOf(".", begin));
    }

    /** The table of the coder's states, four numbers each. */
    int[][] table() {
        String[] rows = tableRows().replace("```text ", "").split(", ");
        int[][] table = new int[rows.length][4];
        for (int i = 0; i < rows.length; i++) {
            String[] numbers = rows[i].split(" ");
            for (int k = 0; k < 4; k++) {
                table[i][k] = Integer.parseInt(numbers[k]);
            }
        }
        return table;
    }
}
