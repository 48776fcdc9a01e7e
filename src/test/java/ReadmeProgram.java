import java.io.IOException;
import java.nio.file.Files;
import java.nio.file.Path;
import java.util.ArrayList;
import java.util.List;
import java.util.regex.Matcher;
import java.util.regex.Pattern;

/**
 * Makes a program, ReadmeUse, of the Java that README.md shows: each block as it stands, so that it
 * has to compile, and once more with each answer that the README tells of compared.
 */
public final class ReadmeProgram {
    /** A statement, which may set a variable, and what a comment at its side says of it. */
    private static final Pattern TOLD =
            Pattern.compile("^\\s*((?:\\w+ )?(\\w+) = )?(.+\\));\\s*// (answers|throws) ([-\\w]+)(?:: .*)?$");
    private static final Pattern TELLS = Pattern.compile("//.*\\b(answers|throws)\\b");

    private final StringBuilder program = new StringBuilder();
    private int told = 0;

    public static void main(String[] args) throws IOException {
        ReadmeProgram made = new ReadmeProgram();
        List<List<String>> blocks = blocks(Files.readAllLines(Path.of(args[0])));
        made.write(blocks);
        if (made.told == 0) {
            throw new IllegalStateException("the README tells of no answer");
        }
        Files.writeString(Path.of(args[1]), made.program.toString());
        System.out.println("README: " + blocks.size() + " blocks, " + made.told + " answers told");
    }

    static List<List<String>> blocks(List<String> readme) {
        List<List<String>> blocks = new ArrayList<>();
        boolean inside = false;
        for (String line : readme) {
            if (line.startsWith("```")) {
                inside = line.equals("```java");
                if (inside) {
                    blocks.add(new ArrayList<>());
                }
            } else if (inside) {
                blocks.get(blocks.size() - 1).add(line);
            }
        }
        return blocks;
    }

    private void write(List<List<String>> blocks) {
        line("public final class ReadmeUse {");
        line("    private static final Checks CHECKS = new Checks();");
        line("    public static void main(String[] args) {");
        for (int i = 0; i < blocks.size(); i++) {
            line("        compared" + i + "();");
        }
        line("        CHECKS.end(\"ReadmeUse\");");
        line("    }");
        for (int i = 0; i < blocks.size(); i++) {
            line("    static void asItStands" + i + "() {");
            blocks.get(i).forEach(this::line);
            line("    }");
            line("    static void compared" + i + "() {");
            blocks.get(i).forEach(this::compare);
            line("    }");
        }
        line("}");
    }

    private void line(String text) {
        program.append(text).append('\n');
    }

    private void compare(String statement) {
        Matcher found = TOLD.matcher(statement);
        if (!found.matches()) {
            if (TELLS.matcher(statement).find()) {
                throw new IllegalStateException("cannot be compared: " + statement);
            }
            line(statement);
            return;
        }
        told++;
        String call = found.group(3);
        String what = "\"README: " + call.replace("\"", "\\\"") + "\"";
        if (found.group(4).equals("throws")) {
            line("CHECKS.same(" + what + ", Checks.outcome(() -> { " + call + "; }), \"throws." + found.group(5)
                    + "\");");
            return;
        }
        String got = call;
        if (found.group(1) != null) {
            line(found.group(1) + call + ";");
            got = found.group(2);
        }
        line("CHECKS.same(" + what + ", String.valueOf(" + got + "), \"" + found.group(5) + "\");");
    }
}
