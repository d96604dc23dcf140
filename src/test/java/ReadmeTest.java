import java.io.IOException;
import java.lang.reflect.Field;
import java.lang.reflect.Method;
import java.lang.reflect.Modifier;
import java.nio.file.Files;
import java.nio.file.Path;
import java.util.ArrayList;
import java.util.List;
import java.util.regex.Matcher;
import java.util.regex.Pattern;

/**
 * README.md says what is so: each call of its examples is made and answers what stands behind it, and it names
 * every call, every constant with its number, and every test. Run it in the project's directory.
 */
public final class ReadmeTest {
    private static final Path README = Path.of("README.md");
    private static final Path TESTS = Path.of("src/test/java");
    private static final Pattern EXAMPLE = Pattern.compile("x\\.(\\w+)\\((.*)\\); +// (\\S+?)(:.*)?");
    private static final int FEWEST_EXAMPLES = 10;

    private static int wrong = 0;

    private static void tell(String what) {
        wrong++;
        System.out.println(README + ": " + what);
    }

    private static Object[] arguments(String text) {
        List<Object> all = new ArrayList<>();
        for (String one : text.split(",")) {
            String word = one.strip();
            if (word.matches("'.'")) {
                all.add((int) word.charAt(1));
            } else if (!word.isEmpty()) {
                all.add(Integer.parseInt(word));
            }
        }
        return all.toArray();
    }

    private static int due(String text) throws ReflectiveOperationException {
        boolean isName = text.matches("[A-Z]+");
        return isName ? LoopStrands.class.getField(text).getInt(null) : Integer.parseInt(text);
    }

    private static int call(LoopStrands x, String name, Object[] with) throws ReflectiveOperationException {
        for (Method method : LoopStrands.class.getDeclaredMethods()) {
            if (method.getName().equals(name) && Modifier.isPublic(method.getModifiers())) {
                return (Integer) method.invoke(x, with);
            }
        }
        throw new NoSuchMethodException(name);
    }

    /** A line that makes an object begins a new run of calls. */
    private static void runExamples(List<String> lines) throws ReflectiveOperationException {
        LoopStrands x = null;
        int examples = 0;
        for (String line : lines) {
            if (line.startsWith("LoopStrands x = new LoopStrands();")) {
                x = new LoopStrands();
            } else if (line.startsWith("x.")) {
                Matcher found = EXAMPLE.matcher(line);
                if (x == null || !found.matches()) {
                    tell("this example can't be run: " + line);
                    continue;
                }
                int got = call(x, found.group(1), arguments(found.group(2)));
                if (got != due(found.group(3))) {
                    tell(line + " answered " + got);
                }
                examples++;
            }
        }
        if (examples < FEWEST_EXAMPLES) {
            tell("only " + examples + " examples");
        }
    }

    private static void lookForCalls(String text) {
        for (Method method : LoopStrands.class.getDeclaredMethods()) {
            if (Modifier.isPublic(method.getModifiers()) && !text.contains("`" + method.getName() + "(")) {
                tell("does not tell of " + method.getName() + "()");
            }
        }
    }

    private static void lookForConstants(String text) throws ReflectiveOperationException {
        for (Field field : LoopStrands.class.getFields()) {
            String row = "| `" + field.getName() + "` | " + field.getInt(null) + " |";
            if (!text.contains(row)) {
                tell("does not tell of " + row);
            }
        }
    }

    private static void lookForTests(String text) throws IOException {
        try (var files = Files.list(TESTS)) {
            files.map(file -> file.getFileName().toString().replace(".java", "")).sorted().forEach(name -> {
                if (!text.contains("- `" + name + "`")) {
                    tell("does not tell of the test " + name);
                }
            });
        }
        if (!text.contains(".ci/run")) {
            tell("does not tell how the tests are run");
        }
    }

    public static void main(String[] args) throws IOException, ReflectiveOperationException {
        String text = Files.readString(README);
        runExamples(text.lines().toList());
        lookForCalls(text);
        lookForConstants(text);
        lookForTests(text);
        System.out.println(wrong == 0 ? "README.md says what is so" : wrong + " places of README.md are wrong");
        if (wrong != 0) {
            System.exit(1);
        }
    }
}
