import java.io.IOException;
import java.lang.reflect.Field;
import java.lang.reflect.InvocationTargetException;
import java.lang.reflect.Method;
import java.lang.reflect.Modifier;
import java.nio.charset.StandardCharsets;
import java.nio.file.Files;
import java.nio.file.Path;
import java.util.HashMap;
import java.util.Map;
import java.util.regex.Matcher;
import java.util.regex.Pattern;

/**
 * README.md: that its example answers what stands behind each call, that it names every call with
 * its parameters, and every constant. Read from the checkout's root, where .ci/run starts it.
 */
public final class ReadmeTest {
    private static final Pattern LINE_OF_EXAMPLE =
            Pattern.compile("^(?:int (\\w+) = )?cafe\\.(\\w+)\\(([^)]*)\\);\\s*// (-?\\d+)", Pattern.MULTILINE);
    private static final Pattern CALL_IN_TEXT = Pattern.compile("`(\\w+)\\(([^)`]*)\\)`");
    private static final int CALLS_OF_EXAMPLE = 8;

    public static void main(String[] args) throws IOException, ReflectiveOperationException {
        String text = Files.readString(Path.of("README.md"), StandardCharsets.UTF_8);
        example(text);
        callsAreNamed(text);
        constantsAreNamed(text);
        Due.end();
    }

    private static void example(String text) throws ReflectiveOperationException {
        GameCafe cafe = new GameCafe();
        Map<String, Integer> variables = new HashMap<>();
        int calls = 0;
        Matcher line = LINE_OF_EXAMPLE.matcher(text);
        while (line.find()) {
            int answer = answer(cafe, line.group(2), line.group(3).split(", "), variables);
            Due.is("README: " + line.group(2) + "(" + line.group(3) + ")", Integer.parseInt(line.group(4)), answer);
            if (line.group(1) != null) {
                variables.put(line.group(1), answer);
            }
            calls++;
        }
        Due.is("the calls of README's example", CALLS_OF_EXAMPLE, calls);
    }

    private static int answer(GameCafe cafe, String name, String[] written, Map<String, Integer> variables)
            throws ReflectiveOperationException {
        Method method = methodNamed(name);
        Object[] arguments = new Object[written.length];
        for (int i = 0; i < written.length; i++) {
            if (method.getParameterTypes()[i] == boolean.class) {
                arguments[i] = Boolean.valueOf(written[i]);
            } else {
                Integer variable = variables.get(written[i]);
                arguments[i] = variable != null ? variable : Integer.valueOf(written[i]);
            }
        }
        try {
            return (Integer) method.invoke(cafe, arguments);
        } catch (InvocationTargetException thrown) {
            Due.fault("README: " + name + " threw " + thrown.getCause());
            return Integer.MIN_VALUE;
        }
    }

    private static Method methodNamed(String name) throws NoSuchMethodException {
        for (Method method : GameCafe.class.getDeclaredMethods()) {
            if (method.getName().equals(name)) {
                return method;
            }
        }
        throw new NoSuchMethodException(name);
    }

    private static void callsAreNamed(String text) {
        Map<String, Integer> parametersOf = new HashMap<>();
        Matcher call = CALL_IN_TEXT.matcher(text);
        while (call.find()) {
            parametersOf.put(call.group(1), call.group(2).isEmpty() ? 0 : call.group(2).split(", ").length);
        }
        for (Method method : GameCafe.class.getDeclaredMethods()) {
            if (Modifier.isPublic(method.getModifiers())) {
                Due.is("the parameters that README gives " + method.getName(), method.getParameterCount(),
                        parametersOf.getOrDefault(method.getName(), -1));
            }
        }
    }

    private static void constantsAreNamed(String text) {
        for (Field field : GameCafe.class.getDeclaredFields()) {
            if (Modifier.isPublic(field.getModifiers())) {
                Due.is("README names " + field.getName(), true, text.contains("`" + field.getName() + "`"));
            }
        }
    }
}
