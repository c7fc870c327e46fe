import java.io.IOException;
import java.lang.reflect.InvocationTargetException;
import java.lang.reflect.Method;
import java.lang.reflect.Modifier;
import java.nio.file.DirectoryStream;
import java.nio.file.Files;
import java.nio.file.Path;
import java.util.ArrayList;
import java.util.List;
import java.util.Map;
import java.util.Set;
import java.util.TreeMap;
import java.util.TreeSet;
import java.util.regex.Matcher;
import java.util.regex.Pattern;

/** The calls in README.md answer what stands behind them there. */
public final class ReadmeTest {
    private static final String MADE = "LoadChecks checks = new LoadChecks();";
    private static final Pattern CALL =
            Pattern.compile("(?:int (\\w+) = )?checks\\.(\\w+)\\(([^)]*)\\);\\s*// (\\S.*)");
    private static final Pattern TOLD = Pattern.compile("(-?\\d+|\\w+Exception): .*");
    private static final int MOST_CALLS = 512;

    private final Due due;
    private final LoadChecks checks = new LoadChecks();
    private final Map<String, Integer> variables = new TreeMap<>();
    private final Set<String> called = new TreeSet<>();
    private int calls;

    private ReadmeTest(Due due) {
        this.due = due;
    }

    public static void main(String[] args) throws IOException {
        Due due = new Due();
        List<String> readme = Files.readAllLines(Path.of("README.md"));
        new ReadmeTest(due).follow(example(readme));
        namesEachTest(due, String.join("\n", readme));
        due.end();
    }

    private static List<String> example(List<String> readme) {
        int start = readme.indexOf("```java") + 1;
        int length = readme.subList(start, readme.size()).indexOf("```");
        return readme.subList(start, start + length);
    }

    private void follow(List<String> example) {
        for (String line : example) {
            Matcher call = CALL.matcher(line);
            if (call.matches()) {
                follow(line, call);
            } else {
                due.holds("not read: " + line, line.isEmpty() || line.startsWith("// ") || line.equals(MADE));
            }
        }
        due.holds("the example makes one object", example.indexOf(MADE) == example.lastIndexOf(MADE)
                && example.contains(MADE));
        due.holds(calls + " calls are more than an object serves", calls <= MOST_CALLS);
        Set<String> all = new TreeSet<>();
        for (Method method : LoadChecks.class.getDeclaredMethods()) {
            if (Modifier.isPublic(method.getModifiers())) {
                all.add(method.getName());
            }
        }
        due.holds("the example calls " + called + ", due are " + all, called.equals(all));
    }

    private void follow(String line, Matcher call) {
        calls++;
        called.add(call.group(2));
        String answer = answer(call.group(2), arguments(call.group(3)));
        if (call.group(1) != null) {
            variables.put(call.group(1), Integer.valueOf(answer));
        }
        Matcher told = TOLD.matcher(call.group(4));
        String want = told.matches() ? told.group(1) : "nothing";
        due.holds(line + " answered " + answer, answer.equals(want));
    }

    private List<Object> arguments(String text) {
        List<Object> arguments = new ArrayList<>();
        for (String part : text.split(", ")) {
            if (part.equals("true") || part.equals("false")) {
                arguments.add(Boolean.valueOf(part));
            } else if (variables.containsKey(part)) {
                arguments.add(variables.get(part));
            } else {
                arguments.add(Integer.valueOf(part.replace("_", "")));
            }
        }
        return arguments;
    }

    private String answer(String name, List<Object> arguments) {
        for (Method method : LoadChecks.class.getDeclaredMethods()) {
            if (method.getName().equals(name) && Modifier.isPublic(method.getModifiers())) {
                return answer(method, arguments);
            }
        }
        return "no such call";
    }

    private String answer(Method method, List<Object> arguments) {
        try {
            Object answer = method.invoke(checks, arguments.toArray());
            return answer == null ? "nothing" : answer.toString();
        } catch (InvocationTargetException e) {
            return e.getCause().getClass().getSimpleName();
        } catch (IllegalAccessException e) {
            throw new AssertionError(e);
        }
    }

    private static void namesEachTest(Due due, String readme) throws IOException {
        try (DirectoryStream<Path> files = Files.newDirectoryStream(Path.of("src/test/java"), "*.java")) {
            for (Path file : files) {
                String name = file.getFileName().toString().replace(".java", "");
                due.holds("README.md does not name " + name, readme.contains("`" + name + "`"));
            }
        }
    }
}
