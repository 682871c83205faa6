import java.io.IOException;
import java.lang.reflect.Field;
import java.lang.reflect.Modifier;
import java.nio.file.Files;
import java.nio.file.Path;
import java.util.List;
import java.util.Set;
import java.util.TreeSet;
import java.util.regex.Matcher;
import java.util.regex.Pattern;

/** What can be seen of LANGUAGE.md's rules in the text of the program. */
public final class LanguageTest {
    private static final Set<String> IMPORTS = Set.of("import java.util.ArrayList;", "import java.util.NoSuchElementException;");
    private static final Set<String> LIBRARY = Set.of("Math.min", "Math.max");
    private static final int MOST_LINES = 60;
    private static final int MOST_FIELDS = 20;

    public static void main(String[] args) throws IOException {
        List<String> lines = Files.readAllLines(Path.of("src/main/java/Pegdraw.java"));
        String code = withoutCommentsAndTexts(String.join("\n", lines));
        for (String line : lines) {
            Check.isTrue("rule 4, import: " + line, !line.startsWith("import") || IMPORTS.contains(line));
            Check.isTrue("rule 1: no package", !line.startsWith("package"));
            Check.isTrue("signs of 1 to 127: " + line, line.chars().allMatch(sign -> sign < 128));
        }
        absent(code, "rule 2, no lambda or method reference", "->|::");
        absent(code, "rule 5, no initialiser block", "static\\s*\\{");
        absent(code, "rule 6", "\\b(try|catch|finally|synchronized|assert|instanceof)\\b");
        absent(code, "rule 6, own objects", "\\b(equals|hashCode|toString)\\b");
        absent(code, "rule 13", "\\b(System|Thread|Random|Clock|Runtime)\\b");
        absent(code, "rule 10, texts are not joined by +", "\"\\s*\\+|\\+\\s*\"");
        absent(code, "rule 9, loops are counted", "\\b(while|do)\\b");
        onlyTestedDivisors(code);
        onlyLengthsThatAreKnown(code);
        onlyCastsOfNumbers(code);
        onlyKnownCalls(code);
        onlyKnownExceptions(code);
        methodsAreShort(lines);
        classesAreSmall();
        Check.end();
    }

    private static String withoutCommentsAndTexts(String code) {
        return code.replaceAll("(?s)/\\*.*?\\*/", "").replaceAll("//.*", "").replaceAll("\"[^\"]*\"", "\"\"");
    }

    private static void absent(String code, String rule, String pattern) {
        Matcher found = Pattern.compile(pattern).matcher(code);
        Check.isTrue(rule + (found.find() ? ": " + found.group() : ""), !found.reset().find());
    }

    /** Constants, numbers that are no int, and the one divisor that its own line tests. */
    private static void onlyTestedDivisors(String code) {
        Matcher found = Pattern.compile("[/%]=?\\s*(.*)").matcher(code);
        while (found.find()) {
            boolean isTested = found.group(1).startsWith("divisor ") && code.contains("divisor > 0 ? z % divisor :");
            Check.isTrue("rule 7, a divisor: " + found.group(),
                    isTested || found.group(1).matches("([1-9][0-9]*\\b|MODULUS\\b|\\(float\\) |\\(double\\) ).*"));
        }
    }

    private static void onlyLengthsThatAreKnown(String code) {
        Matcher found = Pattern.compile("new \\w+\\[([^\\]]*)\\]").matcher(code);
        while (found.find()) {
            Check.isTrue("rule 7, a length: " + found.group(), found.group(1).matches("[0-9]+|[A-Z_]+"));
        }
    }

    private static void onlyCastsOfNumbers(String code) {
        absent(code, "rule 7, a cast", "\\([A-Z]\\w*\\) ?[\\w(]");
    }

    private static void onlyKnownCalls(String code) {
        Matcher found = Pattern.compile("\\b(Math|Integer|Long|Arrays|List|String)\\.\\w+").matcher(code);
        while (found.find()) {
            Check.isTrue("rule 4: " + found.group(), LIBRARY.contains(found.group()));
        }
    }

    private static void onlyKnownExceptions(String code) {
        Set<String> known = Set.of("IllegalStateException", "IllegalArgumentException", "IndexOutOfBoundsException",
                "ArithmeticException", "UnsupportedOperationException", "NoSuchElementException");
        Set<String> thrown = new TreeSet<>();
        Matcher found = Pattern.compile("throw new (\\w+)\\(").matcher(code);
        while (found.find()) {
            thrown.add(found.group(1));
        }
        Check.isTrue("rule 6: " + thrown, known.containsAll(thrown));
    }

    private static void methodsAreShort(List<String> lines) {
        int start = -1;
        String indent = "";
        for (int i = 0; i < lines.size(); i++) {
            String line = lines.get(i);
            Matcher head = Pattern.compile("^( {4}| {8})[^ *}/].*\\{$").matcher(line);
            if (start < 0 && head.find() && !line.contains(" class ")) {
                start = i;
                indent = head.group(1);
            } else if (start >= 0 && line.equals(indent + "}")) {
                Check.isTrue("rule 11: lines of the method that ends at " + (i + 1), i - start < MOST_LINES);
                start = -1;
            }
        }
    }

    private static void classesAreSmall() {
        Check.isTrue("rule 11: classes", Pegdraw.class.getDeclaredClasses().length + 1 <= 12);
        fieldsAreFew(Pegdraw.class);
        for (Class<?> inner : Pegdraw.class.getDeclaredClasses()) {
            Check.isTrue("rule 1: " + inner.getSimpleName() + " is static", Modifier.isStatic(inner.getModifiers()));
            Check.isTrue("rule 1: " + inner.getSimpleName() + " is not public",
                    !Modifier.isPublic(inner.getModifiers()) && !Modifier.isProtected(inner.getModifiers()));
            fieldsAreFew(inner);
        }
    }

    private static void fieldsAreFew(Class<?> one) {
        int fields = 0;
        for (Field field : one.getDeclaredFields()) {
            boolean shared = Modifier.isStatic(field.getModifiers());
            Check.isTrue("rule 5: " + field.getName() + " is final", !shared || Modifier.isFinal(field.getModifiers()));
            fields += shared ? 0 : 1;
        }
        Check.isTrue("rule 11: fields of " + one.getSimpleName() + ", " + fields, fields <= MOST_FIELDS);
    }
}
