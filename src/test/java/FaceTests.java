import java.lang.reflect.Constructor;
import java.lang.reflect.Field;
import java.lang.reflect.Method;
import java.lang.reflect.Modifier;
import java.nio.file.Files;
import java.nio.file.Path;
import java.util.Arrays;
import java.util.List;
import java.util.Map;
import java.util.Set;
import java.util.TreeSet;
import java.util.regex.Pattern;

/** The face of the class, and those rules of the language that a test can see. */
public final class FaceTests {
    private static final Checks CHECKS = new Checks();

    private static final String[] FACE = {
        "public void shape(int,int,int,boolean) throws IllegalArgumentException",
        "public boolean put(int,int,boolean) throws IndexOutOfBoundsException",
        "public void reference(int,int) throws IllegalArgumentException",
        "public boolean refer(int,int,boolean) throws IllegalStateException,IndexOutOfBoundsException",
        "public void offset(int,int) throws IllegalStateException,IllegalArgumentException",
        "public void adaptive(int,int,int) throws IllegalArgumentException",
        "public void keep(boolean)",
        "public int encode() throws IllegalStateException",
        "public int feed(int,long) throws IllegalArgumentException",
        "public int wipe()",
        "public int byteAt(int)",
        "public int decode() throws IllegalStateException",
        "public int at(int,int)",
        "public boolean take()",
        "public int context(int,int) throws IllegalStateException,IndexOutOfBoundsException",
        "public int told(int) throws IllegalArgumentException",
        "public int state(int,boolean) throws IllegalArgumentException",
    };

    public static void main(String[] args) throws Exception {
        String source = Files.readString(Path.of("src/main/java/RefineRegions.java"));
        methodsAreThoseOfTheDocument();
        if (new Document().isThere()) {
            faceIsTheDocuments(new Document(), source.replaceAll("\\s+", " "));
        }
        fieldsAndConstructors();
        nestedClasses();
        sourceKeepsToTheLanguage(source);
        CHECKS.end("FaceTests");
    }

    private static void methodsAreThoseOfTheDocument() {
        Set<String> seen = new TreeSet<>();
        Set<String> names = new TreeSet<>();
        for (Method method : RefineRegions.class.getDeclaredMethods()) {
            if (!Modifier.isPrivate(method.getModifiers())) {
                seen.add(method.toGenericString().replace("RefineRegions.", "").replace("java.lang.", ""));
                names.add(method.getName());
            }
        }
        CHECKS.same("the methods", seen.toString(), new TreeSet<>(Arrays.asList(FACE)).toString());
        for (Method method : RefineRegions.class.getDeclaredMethods()) {
            CHECKS.holds("a private method with a public one's name: " + method,
                    !Modifier.isPrivate(method.getModifiers()) || !names.contains(method.getName()));
        }
    }

    /** Every declaration of the document stands in the source, with the names of its parameters. */
    private static void faceIsTheDocuments(Document document, String source) {
        List<String> face = document.face();
        CHECKS.same("a constant, a constructor and the methods", face.size(), 2 + FACE.length);
        CHECKS.same("the constant", face.get(0), "public static final int NONE = -1");
        CHECKS.holds("the constant stands in the source", source.contains(face.get(0) + ";"));
        for (String declaration : face.subList(1, face.size())) {
            CHECKS.holds("in the source: " + declaration, source.contains(" " + declaration + " {"));
        }
        Map<Integer, String> promised = document.declarations();
        CHECKS.same("promises", promised.size(), 1 + FACE.length);
        for (int promise = 1; promise <= promised.size(); promise++) {
            CHECKS.same("promise " + promise, "public " + promised.get(promise), face.get(promise));
        }
    }

    private static void fieldsAndConstructors() {
        CHECKS.same("the class", Modifier.toString(RefineRegions.class.getModifiers()), "public final");
        for (Field field : RefineRegions.class.getDeclaredFields()) {
            CHECKS.holds("a field that is seen: " + field,
                    Modifier.isPrivate(field.getModifiers()) || field.getName().equals("NONE"));
            CHECKS.holds("static fields are final: " + field,
                    !Modifier.isStatic(field.getModifiers()) || Modifier.isFinal(field.getModifiers()));
        }
        Constructor<?>[] constructors = RefineRegions.class.getDeclaredConstructors();
        CHECKS.same("constructors", constructors.length, 1);
        CHECKS.same("the constructor", constructors[0].toString(), "public RefineRegions()");
    }

    private static void nestedClasses() {
        Class<?>[] inside = RefineRegions.class.getDeclaredClasses();
        CHECKS.holds("at most twelve classes", inside.length < 12);
        for (Class<?> one : inside) {
            int modifiers = one.getModifiers();
            CHECKS.holds("private or package-visible: " + one,
                    !Modifier.isPublic(modifiers) && !Modifier.isProtected(modifiers));
            CHECKS.holds("static: " + one, Modifier.isStatic(modifiers));
            CHECKS.holds("some twenty fields: " + one, one.getDeclaredFields().length <= 20);
            for (Field field : one.getDeclaredFields()) {
                CHECKS.holds("static fields are final: " + field,
                        !Modifier.isStatic(field.getModifiers()) || Modifier.isFinal(field.getModifiers()));
            }
        }
    }

    private static void sourceKeepsToTheLanguage(String source) {
        String[] never = {"\\btry\\b", "\\bcatch\\b", "\\bfinally\\b", "\\bsynchronized\\b", "\\bassert\\b",
            "->", "::", "^package\\b", "\\bSystem\\b", "\\bRandom\\b", "Exact\\b", "\\bdouble\\b", "\\bfloat\\b"};
        for (String word : never) {
            CHECKS.holds("no " + word, !Pattern.compile(word).matcher(source).find());
        }
        for (String line : source.split("\n")) {
            if (line.startsWith("import ")) {
                CHECKS.same("imports", line, "import java.util.Arrays;");
            }
        }
    }
}
