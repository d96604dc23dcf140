import java.io.IOException;
import java.nio.file.Files;
import java.nio.file.Path;
import java.util.List;
import java.util.regex.Matcher;
import java.util.regex.Pattern;

/** Some rules of LANGUAGE.md that can be seen in the text of the program. Run it in the project's directory. */
public final class LanguageTest {
    private static final Path PROGRAM = Path.of("src/main/java/LoopStrands.java");
    private static final int LONGEST_METHOD = 60;
    private static final List<String> FORBIDDEN = List.of(
            "\\bthrows?\\b", "\\btry\\b", "\\bcatch\\b", "\\bfinally\\b", "\\bsynchronized\\b", "\\bassert\\b",
            "->", "::", "\\w+Exact\\b", "\\bRandom\\b", "\\bThread\\b", "\\bnanoTime\\b", "\\bcurrentTimeMillis\\b",
            "\\bMath\\.random\\b", "\\bprotected\\b", "^package\\b", "^import (?!java\\.util\\.Arrays;)",
            "\\bhashCode\\b", "\\btoString\\b", "static \\{", "[^\\x00-\\x7f]");

    private static int wrong = 0;

    private static void tell(int line, String what) {
        wrong++;
        System.out.println(PROGRAM + ":" + line + ": " + what);
    }

    private static void lookForForbidden(List<String> lines) {
        for (int i = 0; i < lines.size(); i++) {
            String line = lines.get(i).strip();
            if (line.startsWith("//") || line.startsWith("*") || line.startsWith("/*")) {
                continue;
            }
            for (String rule : FORBIDDEN) {
                Matcher found = Pattern.compile(rule).matcher(line);
                if (found.find()) {
                    tell(i + 1, "'" + found.group() + "' is outside the language");
                }
            }
        }
    }

    /** A method begins at a line that ends its head with ") {", four or eight blanks in. */
    private static void measureMethods(List<String> lines) {
        for (int i = 0; i < lines.size(); i++) {
            Matcher head = Pattern.compile("( {4}| {8})(?! )(?!if|for|while|switch).*\\) \\{").matcher(lines.get(i));
            if (head.matches()) {
                int end = i;
                while (end < lines.size() && !lines.get(end).equals(head.group(1) + "}")) {
                    end++;
                }
                if (end - i + 1 > LONGEST_METHOD) {
                    tell(i + 1, "a method of " + (end - i + 1) + " lines");
                }
            }
        }
    }

    public static void main(String[] args) throws IOException {
        List<String> lines = Files.readAllLines(PROGRAM);
        lookForForbidden(lines);
        measureMethods(lines);
        System.out.println(wrong == 0 ? "no rule is seen broken" : wrong + " places are outside the language");
        if (wrong != 0) {
            System.exit(1);
        }
    }
}
