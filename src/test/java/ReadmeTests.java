import java.io.IOException;
import java.lang.reflect.Method;
import java.lang.reflect.Modifier;
import java.nio.file.Files;
import java.nio.file.Path;
import java.util.ArrayList;
import java.util.List;
import java.util.Map;
import java.util.TreeMap;
import java.util.regex.Matcher;
import java.util.regex.Pattern;

/** That README.md tells of the whole class; ReadmeProgram has what it shows compiled and run. */
public final class ReadmeTests {
    private static final Checks CHECKS = new Checks();

    /** A row of the table: the call, what it does, what it answers, what it throws. */
    private static final Pattern ROW = Pattern.compile("^\\| `(\\w+)\\((.*?)\\)` \\|.*\\|(.*)\\|(.*)\\|$");
    private static final Pattern EXCEPTION = Pattern.compile("`(\\w+Exception)`");

    public static void main(String[] args) throws IOException {
        List<String> readme = Files.readAllLines(Path.of("README.md"));
        tableIsTheFace(readme);
        everyCallIsShown(ReadmeProgram.blocks(readme));
        howToRunTheTests(readme);
        CHECKS.end("ReadmeTests");
    }

    private static Map<String, Method> face() {
        Map<String, Method> face = new TreeMap<>();
        for (Method method : RefineRegions.class.getDeclaredMethods()) {
            if (Modifier.isPublic(method.getModifiers())) {
                face.put(method.getName(), method);
            }
        }
        return face;
    }

    private static void tableIsTheFace(List<String> readme) {
        Map<String, Method> rest = face();
        for (String line : readme) {
            Matcher row = ROW.matcher(line);
            if (row.matches()) {
                Method method = rest.remove(row.group(1));
                CHECKS.holds("a method of the face, told of once: " + row.group(1), method != null);
                if (method != null) {
                    rowIsTheMethod(row, method);
                }
            }
        }
        CHECKS.same("methods that the table leaves out", rest.keySet().toString(), "[]");
    }

    private static void rowIsTheMethod(Matcher row, Method method) {
        String name = row.group(1);
        int parameters = row.group(2).isEmpty() ? 0 : row.group(2).split(",").length;
        CHECKS.same("parameters of " + name, parameters, method.getParameterCount());
        CHECKS.same("whether " + name + " answers", String.valueOf(!row.group(3).isBlank()),
                String.valueOf(method.getReturnType() != void.class));
        List<String> told = new ArrayList<>();
        Matcher exceptions = EXCEPTION.matcher(row.group(4));
        while (exceptions.find()) {
            told.add(exceptions.group(1));
        }
        List<String> thrown = new ArrayList<>();
        for (Class<?> exception : method.getExceptionTypes()) {
            thrown.add(exception.getSimpleName());
        }
        CHECKS.same("what " + name + " throws", told.toString(), thrown.toString());
    }

    private static void everyCallIsShown(List<List<String>> blocks) {
        String shown = blocks.toString();
        CHECKS.holds("making an object is shown", shown.contains("= new RefineRegions();"));
        for (Method method : face().values()) {
            CHECKS.holds(method.getName() + " is shown", shown.contains("regions." + method.getName() + "("));
            for (Class<?> exception : method.getExceptionTypes()) {
                String thrown = "regions\\." + method.getName() + "\\([^/]*; *// throws " + exception.getSimpleName();
                CHECKS.holds(method.getName() + " is shown to throw " + exception.getSimpleName(),
                        Pattern.compile(thrown).matcher(shown).find());
            }
        }
    }

    /** Every test class is named, and the script that runs them. */
    private static void howToRunTheTests(List<String> readme) throws IOException {
        String all = String.join("\n", readme);
        CHECKS.holds("the script is named", all.contains("\n.ci/run\n"));
        try (var files = Files.list(Path.of("src/test/java"))) {
            files.map(file -> file.getFileName().toString().replace(".java", ""))
                    .forEach(name -> CHECKS.holds("README names " + name, all.contains("`" + name + "`")));
        }
    }
}
