import java.lang.reflect.InvocationTargetException;
import java.lang.reflect.Method;
import java.lang.reflect.Modifier;
import java.nio.file.Files;
import java.nio.file.Path;
import java.util.List;
import java.util.Set;
import java.util.TreeSet;
import java.util.regex.Matcher;
import java.util.regex.Pattern;
import java.util.stream.Stream;

/** README.md says what is so: its examples, and the names of all calls and tests. Runs where README.md stands. */
public final class ReadmeTest {
    private static final Due DUE = new Due("ReadmeTest");
    private static final Pattern CALL = Pattern.compile("hall\\.(\\w+)\\((.*)\\); +// (-?\\d+)(: .*)?");

    public static void main(String[] args) throws Exception {
        List<String> lines = Files.readAllLines(Path.of("README.md"));
        Set<String> shown = goThroughExamples(lines);
        for (Method m : WindHall.class.getDeclaredMethods()) {
            if (Modifier.isPublic(m.getModifiers())) {
                DUE.due(0, "README.md shows " + m.getName() + " at work", shown.contains(m.getName()) ? 1 : 0, 1);
            }
        }
        namesAllTests(String.join("\n", lines));
        DUE.end();
    }

    /** Answers the names of the calls that the examples make. */
    private static Set<String> goThroughExamples(List<String> lines) throws ReflectiveOperationException {
        Set<String> shown = new TreeSet<>();
        WindHall hall = null;
        boolean isExample = false;
        for (String line : lines) {
            if (line.startsWith("```")) {
                isExample = line.equals("```java");
                hall = null;
            } else if (line.equals("WindHall hall = new WindHall();")) {
                hall = new WindHall();
            } else if (isExample) {
                Matcher call = CALL.matcher(line);
                boolean canBeRead = hall != null && call.matches();
                DUE.due(0, "README.md can be read: " + line, canBeRead ? 1 : 0, 1);
                if (canBeRead) {
                    shown.add(call.group(1));
                    DUE.due(0, "README.md: " + line, answer(hall, call.group(1), call.group(2)), Long.parseLong(call.group(3)));
                }
            }
        }
        return shown;
    }

    private static long answer(WindHall hall, String name, String told) throws ReflectiveOperationException {
        String[] words = told.isEmpty() ? new String[0] : told.split(", ");
        for (Method m : WindHall.class.getDeclaredMethods()) {
            if (Modifier.isPublic(m.getModifiers()) && m.getName().equals(name) && m.getParameterCount() == words.length) {
                return call(hall, m, words);
            }
        }
        throw new IllegalStateException("README.md calls " + name + "(" + told + "), which there is not");
    }

    private static long call(WindHall hall, Method m, String[] words)
            throws IllegalAccessException, InvocationTargetException {
        Object[] told = new Object[words.length];
        for (int i = 0; i < words.length; i++) {
            boolean isFlag = m.getParameterTypes()[i] == boolean.class;
            told[i] = isFlag ? (Object) Boolean.valueOf(words[i]) : (Object) Integer.valueOf(words[i]);
        }
        return ((Number) m.invoke(hall, told)).longValue();
    }

    private static void namesAllTests(String readme) throws java.io.IOException {
        try (Stream<Path> files = Files.list(Path.of("src/test/java"))) {
            for (Path file : files.toList()) {
                String name = file.getFileName().toString().replace(".java", "");
                if (name.endsWith("Test")) {
                    DUE.due(0, "README.md names " + name, readme.contains("`" + name + "`") ? 1 : 0, 1);
                }
            }
        }
        DUE.due(0, "README.md says how the tests are run", readme.contains("\n    .ci/run\n") ? 1 : 0, 1);
    }
}
