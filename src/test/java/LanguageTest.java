import java.io.IOException;
import java.lang.reflect.Constructor;
import java.lang.reflect.Field;
import java.lang.reflect.Method;
import java.lang.reflect.Modifier;
import java.nio.file.Files;
import java.nio.file.Path;
import java.util.ArrayList;
import java.util.List;
import java.util.Set;
import java.util.regex.Matcher;
import java.util.regex.Pattern;
import java.util.stream.Stream;

/** Rules of ../shared/LANGUAGE.md that can be seen from the program's text and classes, by the rule's number. */
public final class LanguageTest {
    private static final Path PROGRAM = Path.of("src/main/java/DeskTurns.java");

    private static final Set<String> IMPORTS = Set.of("java.util.Arrays", "java.util.ArrayList", "java.util.List",
            "java.util.Iterator", "java.util.NoSuchElementException");
    private static final Set<Class<?>> CONSTANTS = Set.of(int.class, long.class, boolean.class, char.class,
            String.class, int[].class, long[].class, char[].class, byte[].class);
    private static final Set<String> EXCEPTIONS = Set.of("IllegalStateException", "IllegalArgumentException",
            "IndexOutOfBoundsException");

    private static final Due due = new Due();

    public static void main(String[] args) throws IOException {
        List<Path> files = files();
        String text = withoutTextsAndComments(Files.readString(PROGRAM));
        due.test("the program is one file", () -> due.is("files", files.toString(), List.of(PROGRAM).toString()));
        due.test("without a package line", () -> absent(text, "\\bpackage\\b"));
        due.test("1: classes inside are static and not public", LanguageTest::classesInside);
        due.test("2: no lambda, no method reference", () -> absent(text, "->|::"));
        due.test("3: no double or float is used", () -> absent(text, "\\b(double|float|Double|Float)\\b"));
        due.test("4: no library but what is listed", () -> imports(text));
        due.test("4: none of those whose name ends in Exact", () -> absent(text, "Exact\\b"));
        due.test("5: static fields are final constants", LanguageTest::staticFields);
        due.test("5: no static initialiser block", () -> absent(text, "\\bstatic\\s*\\{"));
        due.test("6: only the document's exceptions, thrown anew", () -> thrown(text));
        due.test("6: nothing is caught, so nothing that the machine throws", () -> absent(text, "\\b(try|catch)\\b"));
        due.test("6: words that are ruled out", () -> absent(text, "\\b(finally|synchronized|assert|getMessage)\\b"));
        due.test("6: no equals, hashCode or toString", () -> absent(text, "\\b(equals|hashCode|toString)\\b"));
        due.test("7: no division, so no divisor that is 0", () -> absent(text, "[/%]"));
        due.test("11: parameters, classes and fields", LanguageTest::sizes);
        due.test("13: no clock, randomness, file, thread", () -> absent(text, "\\b(System|Random|Thread|java\\.io)\\b"));
        due.end();
    }

    private static List<Path> files() throws IOException {
        try (Stream<Path> all = Files.walk(Path.of("src/main"))) {
            return all.filter(Files::isRegularFile).toList();
        }
    }

    private static String withoutTextsAndComments(String program) {
        return program.replaceAll("(?s)/\\*.*?\\*/", "").replaceAll("\"[^\"\\n]*\"", "\"\"").replaceAll("//[^\\n]*", "");
    }

    private static void absent(String text, String pattern) {
        Matcher found = Pattern.compile(pattern).matcher(text);
        due.is("the program has", found.find() ? found.group() : "nothing of it", "nothing of it");
    }

    private static void imports(String text) {
        Matcher found = Pattern.compile("\\bimport\\s+([^;]*);").matcher(text);
        while (found.find()) {
            due.is(found.group(), IMPORTS.contains(found.group(1)), true);
        }
        absent(text.replaceAll("\\bimport[^;]*;", ""), "\\bjavax?\\.");
    }

    private static void thrown(String text) {
        Matcher found = Pattern.compile("\\bthrow\\b\\s*(?:new\\s+(\\w+)\\(\"*\\);)?").matcher(text);
        while (found.find()) {
            due.is(found.group(), found.group(1) != null && EXCEPTIONS.contains(found.group(1)), true);
        }
    }

    private static List<Class<?>> allClasses() {
        List<Class<?>> all = new ArrayList<>(List.of(DeskTurns.class));
        all.addAll(List.of(DeskTurns.class.getDeclaredClasses()));
        return all;
    }

    private static void classesInside() {
        for (Class<?> c : DeskTurns.class.getDeclaredClasses()) {
            int modifiers = c.getModifiers();
            due.is(c + " is static", Modifier.isStatic(modifiers), true);
            due.is(c + " is open", Modifier.isPublic(modifiers) || Modifier.isProtected(modifiers), false);
        }
    }

    private static void staticFields() {
        for (Class<?> c : allClasses()) {
            for (Field f : c.getDeclaredFields()) {
                boolean fine = Modifier.isFinal(f.getModifiers()) && CONSTANTS.contains(f.getType());
                due.is(f + " is static and no constant", Modifier.isStatic(f.getModifiers()) && !fine, false);
            }
        }
    }

    private static void sizes() {
        due.is("more than 12 classes", allClasses().size() > 12, false);
        for (Class<?> c : allClasses()) {
            long fields = Stream.of(c.getDeclaredFields()).filter(f -> !Modifier.isStatic(f.getModifiers())).count();
            due.is(c + " has more than 20 fields", fields > 20, false);
            for (Method m : c.getDeclaredMethods()) {
                due.is(m + " takes more than 7", m.getParameterCount() > 7, false);
            }
            for (Constructor<?> m : c.getDeclaredConstructors()) {
                due.is(m + " takes more than 7", m.getParameterCount() > 7, false);
            }
        }
    }
}
