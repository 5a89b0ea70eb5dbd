import java.io.IOException;
import java.lang.reflect.InvocationTargetException;
import java.lang.reflect.Method;
import java.nio.file.Files;
import java.nio.file.Path;
import java.util.HashSet;
import java.util.Set;
import java.util.regex.Matcher;
import java.util.regex.Pattern;

/** The calls of README.md's example, in their order; a number behind a call is its answer. */
public final class ReadmeTest {
    private static final Check CHECK = new Check("readme");
    private static final Pattern CALL = Pattern.compile("vault\\.(\\w+)\\(([^)]*)\\)");
    private static final Pattern ANSWER = Pattern.compile("// (-?\\d+)(:|$)");

    private final FormatVault vault = new FormatVault();
    private final Set<String> called = new HashSet<>();

    public static void main(String[] args) throws Exception {
        ReadmeTest test = new ReadmeTest();
        for (String line : Files.readAllLines(Path.of("README.md"))) {
            Matcher call = CALL.matcher(line);
            if (call.find()) {
                test.checkCall(line, call.group(1), call.group(2));
            }
        }
        CHECK.same("most of the methods are shown", test.called.size() > 20, true);
        CHECK.end();
    }

    private void checkCall(String line, String name, String arguments)
            throws IllegalAccessException, InvocationTargetException {
        Object answer = invoke(name, arguments.isEmpty() ? new String[0] : arguments.split(", "));
        called.add(name);
        Matcher due = ANSWER.matcher(line);
        if (line.contains("show(")) {
            Object got = answer instanceof Boolean ? ((Boolean) answer ? 1 : 0) : answer;
            CHECK.same(line.strip(), got.toString(), due.find() ? due.group(1) : "not told");
        }
    }

    private Object invoke(String name, String[] arguments)
            throws IllegalAccessException, InvocationTargetException {
        for (Method method : FormatVault.class.getMethods()) {
            if (method.getName().equals(name)) {
                return method.invoke(vault, values(method, arguments));
            }
        }
        throw new IllegalStateException("README.md calls " + name + ", which there is not");
    }

    private static Object[] values(Method method, String[] arguments) {
        Object[] values = new Object[arguments.length];
        for (int i = 0; i < values.length; i++) {
            boolean isTruth = method.getParameterTypes()[i] == boolean.class;
            values[i] = isTruth ? (Object) Boolean.valueOf(arguments[i])
                    : (Object) Integer.valueOf(arguments[i]);
        }
        return values;
    }
}
