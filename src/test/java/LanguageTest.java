import java.io.IOException;
import java.lang.reflect.Field;
import java.lang.reflect.Method;
import java.lang.reflect.Modifier;
import java.nio.file.Files;
import java.nio.file.Path;
import java.util.ArrayList;
import java.util.HashSet;
import java.util.List;
import java.util.Set;
import java.util.regex.Matcher;
import java.util.regex.Pattern;

/**
 * Some rules of LANGUAGE.md that can be seen in the text of the program, or in its classes. Run it in the project's
 * directory.
 */
public final class LanguageTest {
    private static final Path PROGRAM = Path.of("src/main/java/LoopStrands.java");
    private static final int LONGEST_METHOD = 60;
    private static final int MOST_CLASSES = 12;
    private static final int MOST_FIELDS = 20;
    private static final int MOST_PARAMETERS = 7;
    private static final Set<Class<?>> CONSTANTS = Set.of(int.class, long.class, boolean.class, char.class,
            String.class, int[].class, long[].class, char[].class, byte[].class);
    private static final List<String> FORBIDDEN = List.of(
            "\\bthrows?\\b", "\\btry\\b", "\\bcatch\\b", "\\bfinally\\b", "\\bsynchronized\\b", "\\bassert\\b",
            "->", "::", "\\w+Exact\\b", "\\bRandom\\b", "\\bThread\\b", "\\bnanoTime\\b", "\\bcurrentTimeMillis\\b",
            "\\bMath\\.random\\b", "\\bprotected\\b", "^package\\b", "^import (?!java\\.util\\.Arrays;)",
            "\\bhashCode\\b", "\\btoString\\b", "static \\{", "[^\\x00-\\x7f]");

    private static int wrong = 0;

    private static void tell(int line, String what) {
        wrong++;
        System.out.println(PROGRAM + ":" + line + ": " + what);
    }

    private static void lookForForbidden(List<String> lines) {
        for (int i = 0; i < lines.size(); i++) {
            String line = lines.get(i).strip();
            if (line.startsWith("//") || line.startsWith("*") || line.startsWith("/*")) {
                continue;
            }
            for (String rule : FORBIDDEN) {
                Matcher found = Pattern.compile(rule).matcher(line);
                if (found.find()) {
                    tell(i + 1, "'" + found.group() + "' is outside the language");
                }
            }
        }
    }

    /** A method begins at a line that ends its head with ") {", four or eight blanks in. */
    private static void measureMethods(List<String> lines) {
        for (int i = 0; i < lines.size(); i++) {
            Matcher head = Pattern.compile("( {4}| {8})(?! )(?!if|for|while|switch).*\\) \\{").matcher(lines.get(i));
            if (head.matches()) {
                int end = i;
                while (end < lines.size() && !lines.get(end).equals(head.group(1) + "}")) {
                    end++;
                }
                if (end - i + 1 > LONGEST_METHOD) {
                    tell(i + 1, "a method of " + (end - i + 1) + " lines");
                }
            }
        }
    }

    private static void tellOf(String name, String what) {
        wrong++;
        System.out.println(name + ": " + what);
    }

    private static void lookAtClasses() {
        List<Class<?>> classes = new ArrayList<>(List.of(LoopStrands.class));
        for (Class<?> inside : LoopStrands.class.getDeclaredClasses()) {
            classes.add(inside);
            int kind = inside.getModifiers();
            if (!Modifier.isStatic(kind) || Modifier.isPublic(kind) || Modifier.isProtected(kind)) {
                tellOf(inside.getName(), "is not static, or can be seen from outside");
            }
            if (inside.getDeclaredClasses().length > 0) {
                tellOf(inside.getName(), "has classes inside");
            }
        }
        if (classes.size() > MOST_CLASSES) {
            tellOf("LoopStrands", "there are " + classes.size() + " classes");
        }
        for (Class<?> one : classes) {
            lookAtFields(one);
            lookAtMethods(one);
        }
    }

    private static void lookAtFields(Class<?> one) {
        int held = 0;
        for (Field field : one.getDeclaredFields()) {
            int kind = field.getModifiers();
            String name = one.getName() + "." + field.getName();
            if (!Modifier.isStatic(kind)) {
                held++;
            } else if (!Modifier.isFinal(kind) || !CONSTANTS.contains(field.getType())) {
                tellOf(name, "is a static field that is no constant");
            }
            if (one == LoopStrands.class && !Modifier.isPrivate(kind)
                    && !List.of("UNKNOWN", "OUTSIDE", "STATE", "FULL", "NONE", "FAULT").contains(field.getName())) {
                tellOf(name, "is not in the document's face");
            }
        }
        if (held > MOST_FIELDS) {
            tellOf(one.getName(), "has " + held + " fields");
        }
    }

    private static void lookAtMethods(Class<?> one) {
        Set<String> face = new HashSet<>();
        for (Method method : LoopStrands.class.getMethods()) {
            face.add(method.getName());
        }
        for (Method method : one.getDeclaredMethods()) {
            String name = one.getName() + "." + method.getName();
            boolean isOfFace = one == LoopStrands.class && Modifier.isPublic(method.getModifiers());
            if (!isOfFace && face.contains(method.getName())) {
                tellOf(name, "bears the name of a public method");
            }
            if (method.getParameterCount() > MOST_PARAMETERS) {
                tellOf(name, "takes " + method.getParameterCount() + " parameters");
            }
        }
    }

    public static void main(String[] args) throws IOException {
        List<String> lines = Files.readAllLines(PROGRAM);
        lookForForbidden(lines);
        measureMethods(lines);
        lookAtClasses();
        System.out.println(wrong == 0 ? "no rule is seen broken" : wrong + " places are outside the language");
        if (wrong != 0) {
            System.exit(1);
        }
    }
}
