import java.io.IOException;
import java.lang.reflect.InvocationTargetException;
import java.lang.reflect.Method;
import java.lang.reflect.Modifier;
import java.nio.file.Files;
import java.nio.file.Path;
import java.util.regex.Matcher;
import java.util.regex.Pattern;

/** The calls that README.md shows are made as they stand there; what stands behind them is due. */
public final class ReadmeTest {
    private static final Check CHECK = new Check("ReadmeTest");
    private static final Pattern CALL = Pattern.compile("(?m)^bench\\.(\\w+)\\((.*)\\);(?: +// (.+))?$");
    private static final int FEWEST_CALLS = 20;

    public static void main(String[] args) throws IOException {
        String text = Files.readString(Path.of("README.md"));
        CHECK.test("the calls answer what stands behind them", () -> callsAnswer(text));
        CHECK.test("no call is left out", () -> allAreNamed(text));
        CHECK.end();
    }

    private static void callsAnswer(String text) {
        OrderBench bench = new OrderBench();
        Matcher call = CALL.matcher(text);
        int calls = 0;
        while (call.find()) {
            String due = call.group(3) == null ? "null" : call.group(3);
            CHECK.due(call.group(), answerOf(bench, methodOf(call.group(1)), call.group(2)), due);
            calls++;
        }
        CHECK.due("there are calls", calls >= FEWEST_CALLS, true);
    }

    private static Method methodOf(String name) {
        for (Method method : OrderBench.class.getDeclaredMethods()) {
            if (Modifier.isPublic(method.getModifiers()) && method.getName().equals(name)) {
                return method;
            }
        }
        throw new IllegalStateException("there is no call " + name);
    }

    private static String answerOf(OrderBench bench, Method method, String arguments) {
        try {
            return String.valueOf(method.invoke(bench, values(method.getParameterTypes(), arguments)));
        } catch (InvocationTargetException thrown) {
            return "throws " + thrown.getCause().getClass().getSimpleName();
        } catch (IllegalAccessException hidden) {
            throw new IllegalStateException(hidden);
        }
    }

    private static Object[] values(Class<?>[] types, String arguments) {
        String[] texts = arguments.isEmpty() ? new String[0] : arguments.split(", ");
        Object[] values = new Object[texts.length];
        for (int i = 0; i < texts.length; i++) {
            if (types[i] == boolean.class) {
                values[i] = Boolean.valueOf(texts[i]);
            } else if (types[i] == long.class) {
                values[i] = Long.valueOf(texts[i].replace("L", ""));
            } else {
                values[i] = Integer.valueOf(texts[i]);
            }
        }
        return values;
    }

    private static void allAreNamed(String text) {
        for (Method method : OrderBench.class.getDeclaredMethods()) {
            if (Modifier.isPublic(method.getModifiers())) {
                CHECK.due(method.getName() + " stands in the table", text.contains("`" + method.getName() + "("), true);
            }
        }
    }
}
