import java.io.IOException;
import java.lang.reflect.Constructor;
import java.lang.reflect.Field;
import java.lang.reflect.Method;
import java.lang.reflect.Modifier;
import java.nio.charset.StandardCharsets;
import java.nio.file.Files;
import java.nio.file.Path;
import java.util.Arrays;
import java.util.List;
import java.util.Set;
import java.util.regex.Matcher;
import java.util.regex.Pattern;

/** What of ../shared/LANGUAGE.md can be seen in the text of the class and in its members. */
public final class LanguageTest {
    private static final Path SOURCE = Path.of("src/main/java/LoadChecks.java");
    private static final int MOST_CLASSES = 12;
    private static final int MOST_FIELDS = 20;
    private static final int MOST_PARAMETERS = 7;
    private static final int MOST_LINES = 60;

    private static final Set<String> IMPORTS = Set.of("java.util.Arrays", "java.util.ArrayList", "java.util.List",
            "java.util.Iterator");
    private static final Set<String> THROWN = Set.of("IllegalStateException", "IllegalArgumentException",
            "IndexOutOfBoundsException", "ArithmeticException", "UnsupportedOperationException",
            "NoSuchElementException", "RuntimeException");
    private static final Set<String> LIBRARY = Set.of("Math.min", "Math.max", "Math.abs", "Math.floorDiv",
            "Math.floorMod", "Arrays.fill", "Arrays.copyOf", "Arrays.copyOfRange", "System.arraycopy");
    private static final String[] RULED_OUT = {"\\btry\\b", "\\bcatch\\b", "\\bfinally\\b", "\\bsynchronized\\b",
        "\\bassert\\b", "\\bvolatile\\b", "\\bnative\\b", "\\bpackage\\b", "\\bprotected\\b", "\\bvar\\b", "->", "::",
        "\\bstatic\\s*\\{", "\\bdouble\\b", "\\bfloat\\b", "while\\s*\\(\\s*true\\s*\\)", "for\\s*\\(\\s*;"};

    public static void main(String[] args) throws IOException {
        Due due = new Due();
        byte[] bytes = Files.readAllBytes(SOURCE);
        due.holds("a character above 127", new String(bytes, StandardCharsets.ISO_8859_1).chars().allMatch(c -> c < 128));
        String text = new String(bytes, StandardCharsets.US_ASCII);
        words(due, text);
        throwsOnly(due, text);
        lengths(due, text);
        members(due, LoadChecks.class);
        Class<?>[] inside = LoadChecks.class.getDeclaredClasses();
        due.holds(inside.length + " classes inside are too many", inside.length < MOST_CLASSES);
        for (Class<?> nested : inside) {
            due.holds(nested + " is not static", Modifier.isStatic(nested.getModifiers()));
            due.holds(nested + " is open", !Modifier.isPublic(nested.getModifiers()));
            members(due, nested);
        }
        due.end();
    }

    private static String code(String text) {
        return text.replaceAll("(?s)/\\*.*?\\*/", "").replaceAll("//[^\n]*", "").replaceAll("\"[^\"\n]*\"", "\"\"");
    }

    private static void words(Due due, String text) {
        String code = code(text);
        for (String word : RULED_OUT) {
            due.holds(word + " is ruled out", !Pattern.compile(word).matcher(code).find());
        }
        Matcher imported = Pattern.compile("import\\s+([^;]+);").matcher(code);
        while (imported.find()) {
            due.holds("import of " + imported.group(1), IMPORTS.contains(imported.group(1)));
        }
        Matcher called = Pattern.compile("\\b(?:Math|Integer|Long|Arrays|System|Character|Objects)\\.\\w+").matcher(
                code.replaceAll("import[^;]+;", ""));
        while (called.find()) {
            due.holds("use of " + called.group(), LIBRARY.contains(called.group()));
        }
    }

    /** Rule 6: each throw is of a new exception of its list, with a written text or none. */
    private static void throwsOnly(Due due, String text) {
        long all = Pattern.compile("\\bthrow\\b").matcher(code(text)).results().count();
        Matcher written = Pattern.compile("\\bthrow new (\\w+)\\((?:\"[^\"\n]*\")?\\);").matcher(text);
        long seen = 0;
        while (written.find()) {
            seen++;
            due.holds("throw of " + written.group(1), THROWN.contains(written.group(1)));
        }
        due.holds(all + " throws, of which " + seen + " have the form", all > 0 && all == seen);
    }

    private static void lengths(Due due, String text) {
        List<String> lines = Arrays.asList(text.split("\n"));
        Pattern head = Pattern.compile("( +)(?:public|private)\\b[^;=]*\\([^;]*");
        int methods = 0;
        for (int i = 0; i < lines.size(); i++) {
            Matcher start = head.matcher(lines.get(i));
            if (start.matches()) {
                int length = lines.subList(i, lines.size()).indexOf(start.group(1) + "}");
                due.holds(lines.get(i) + " has " + length + " lines", length > 0 && length <= MOST_LINES);
                methods++;
            }
        }
        int declared = LoadChecks.class.getDeclaredMethods().length;
        due.holds(methods + " methods seen, fewer than " + declared, methods >= declared);
    }

    private static void members(Due due, Class<?> looked) {
        int fields = 0;
        for (Field field : looked.getDeclaredFields()) {
            boolean isStatic = Modifier.isStatic(field.getModifiers());
            fields += isStatic ? 0 : 1;
            due.holds(field + " is static and changes", !isStatic || Modifier.isFinal(field.getModifiers()));
            due.holds(field + " is static and no constant of a number", !isStatic || field.getType().isPrimitive());
        }
        due.holds(looked + " has " + fields + " fields", fields <= MOST_FIELDS);
        for (Method method : looked.getDeclaredMethods()) {
            due.holds(method + " has too many parameters", method.getParameterCount() <= MOST_PARAMETERS);
        }
        for (Constructor<?> constructor : looked.getDeclaredConstructors()) {
            due.holds(constructor + " has too many parameters", constructor.getParameterCount() <= MOST_PARAMETERS);
        }
    }
}
