import java.io.IOException;
import java.lang.reflect.Field;
import java.lang.reflect.Method;
import java.lang.reflect.Modifier;
import java.nio.file.Files;
import java.nio.file.Path;
import java.util.ArrayList;
import java.util.List;
import java.util.Set;
import java.util.TreeSet;
import java.util.regex.Matcher;
import java.util.regex.Pattern;

/** Rules of ../shared/LANGUAGE.md that can be seen in the program's text and in its classes. */
public final class LanguageTest {
    private static final Check CHECK = new Check("LanguageTest");
    private static final Path PROGRAM = Path.of("src/main/java/OrderBench.java");
    private static final Set<String> FORBIDDEN = Set.of("package", "synchronized", "assert", "finally", "try", "catch",
            "native", "transient", "volatile", "protected", "Object", "var", "yield", "sealed");
    private static final Set<String> LIBRARY = Set.of("Math.max", "Math.min", "Integer.compare", "Long.compare",
            "Long.bitCount", "Arrays.fill", "System.arraycopy");
    private static final Set<String> EXCEPTIONS = Set.of("IllegalStateException", "IllegalArgumentException",
            "IndexOutOfBoundsException");
    private static final int MOST_PARAMETERS = 7;
    private static final int MOST_LINES = 60;
    private static final int MOST_CLASSES = 12;
    private static final int MOST_FIELDS = 20;

    public static void main(String[] args) throws IOException {
        List<String> lines = Files.readAllLines(PROGRAM);
        String code = withoutComments(String.join("\n", lines));
        CHECK.test("the one file", () -> CHECK.due("files", programFiles(), "[OrderBench.java]"));
        CHECK.test("rules 2, 6, 10: words that are not used", () -> CHECK.due("words", forbiddenWords(code), "[]"));
        CHECK.test("rule 2: no lambda, no method reference", () ->
                CHECK.due("signs", all(code, "->|::"), "[]"));
        CHECK.test("rule 4: the library", () -> libraryIsListed(code));
        CHECK.test("rule 6: exceptions", () -> throwsAreListed(code));
        CHECK.test("rule 11: methods stay short", () -> methodsAreShort(lines));
        CHECK.test("rule 11: parameters, classes and fields", LanguageTest::membersAreFew);
        CHECK.end();
    }

    private static String withoutComments(String text) {
        return text.replaceAll("(?s)/\\*.*?\\*/", "").replaceAll("//[^\n]*", "");
    }

    private static String programFiles() {
        try (var files = Files.walk(Path.of("src/main"))) {
            return files.filter(Files::isRegularFile).map(file -> file.getFileName().toString()).toList().toString();
        } catch (IOException failed) {
            throw new IllegalStateException(failed);
        }
    }

    private static String all(String code, String sought) {
        Set<String> found = new TreeSet<>();
        Matcher matcher = Pattern.compile(sought).matcher(code);
        while (matcher.find()) {
            found.add(matcher.groupCount() == 0 ? matcher.group() : matcher.group(1));
        }
        return found.toString();
    }

    private static String forbiddenWords(String code) {
        String words = code.replaceAll("\"[^\"\n]*\"", "");
        return all(words, "\\b(" + String.join("|", FORBIDDEN) + ")\\b");
    }

    private static void libraryIsListed(String code) {
        CHECK.due("imports", all(code, "import ([\\w.]+);"), "[java.util.Arrays]");
        Set<String> own = new TreeSet<>();
        own.add("OrderBench");
        for (Class<?> inside : OrderBench.class.getDeclaredClasses()) {
            own.add(inside.getSimpleName());
        }
        Matcher uses = Pattern.compile("\\b([A-Z][a-z]\\w*)\\.(\\w+)").matcher(code);
        Set<String> others = new TreeSet<>();
        while (uses.find()) {
            if (!own.contains(uses.group(1)) && !LIBRARY.contains(uses.group())) {
                others.add(uses.group());
            }
        }
        CHECK.due("what else is used", others.toString(), "[]");
    }

    private static void throwsAreListed(String code) {
        Matcher thrown = Pattern.compile("\\bthrow\\b([^;]*);").matcher(code);
        Pattern listed = Pattern.compile("\\s+new (\\w+)\\((\"[^\"]*\")?\\)");
        while (thrown.find()) {
            Matcher form = listed.matcher(thrown.group(1));
            CHECK.due(thrown.group() + " is of the form", form.matches() && EXCEPTIONS.contains(form.group(1)), true);
        }
    }

    /** A method begins with a line that ends its head, and ends with a brace as far in as it began. */
    private static void methodsAreShort(List<String> lines) {
        List<String> tooLong = new ArrayList<>();
        int methods = 0;
        int begin = -1;
        String end = "";
        for (int i = 0; i < lines.size(); i++) {
            String line = lines.get(i);
            if (begin < 0 && line.matches("( {4}){1,2}[\\w\\[\\]<> ]+\\(.*") && !line.trim().endsWith(";")) {
                begin = i;
                end = line.replaceAll("\\S.*", "") + "}";
            } else if (begin >= 0 && line.equals(end)) {
                methods++;
                if (i - begin + 1 > MOST_LINES) {
                    tooLong.add(lines.get(begin).trim());
                }
                begin = -1;
            }
        }
        CHECK.due("methods are found", methods > 50, true);
        CHECK.due("methods of more than " + MOST_LINES + " lines", tooLong.toString(), "[]");
    }

    private static void membersAreFew() {
        List<Class<?>> classes = new ArrayList<>(List.of(OrderBench.class.getDeclaredClasses()));
        classes.add(OrderBench.class);
        CHECK.due("classes at most " + MOST_CLASSES, classes.size() <= MOST_CLASSES, true);
        for (Class<?> each : classes) {
            int fields = 0;
            for (Field field : each.getDeclaredFields()) {
                fields += Modifier.isStatic(field.getModifiers()) ? 0 : 1;
            }
            CHECK.due("fields of " + each.getName() + " at most " + MOST_FIELDS, fields <= MOST_FIELDS, true);
            for (Method method : each.getDeclaredMethods()) {
                CHECK.due("parameters of " + method.getName() + " at most " + MOST_PARAMETERS,
                        method.getParameterCount() <= MOST_PARAMETERS, true);
            }
        }
    }
}
