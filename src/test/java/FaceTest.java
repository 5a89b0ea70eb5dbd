import java.io.IOException;
import java.lang.reflect.Field;
import java.lang.reflect.InvocationTargetException;
import java.lang.reflect.Method;
import java.lang.reflect.Modifier;
import java.nio.file.Files;
import java.nio.file.Path;
import java.util.ArrayList;
import java.util.Arrays;
import java.util.List;
import java.util.TreeSet;

/** The public face, the rules of LANGUAGE.md that can be seen from outside, and wild arguments. */
public final class FaceTest {
    private static final Check CHECK = new Check("face");
    private static final String[] CALLS = {
        "int setLast(int, int) I A S",
        "int converter(int, int, int, int) I A S",
        "int withdraw(int) I S",
        "void law(int, int, int, int) I A",
        "int quality(int, int) I",
        "int qualityByAll(int, int) I",
        "int cost(int, int) I",
        "int stepAt(int, int, int) I",
        "int file(int, int, int) I A S",
        "boolean hold(int, boolean) I S",
        "int read(int) I S",
        "int move(int, int) I A S",
        "int moveAhead()",
        "int haven(int) I",
        "boolean isSafe(int) I",
        "int stateOf(int) I",
        "int formatOf(int) I",
        "int qualityOf(int) I",
        "int endOf(int) I",
        "int setBudget(int) A",
        "int left()",
        "int begin() S",
        "int year()",
        "int overdue()",
        "int promise(int, int) I",
    };

    public static void main(String[] args) throws Exception {
        theFace();
        theConstants();
        theClassesInside();
        theText();
        for (int run = 0; run < 100; run++) {
            wildArguments(run);
        }
        CHECK.end();
    }

    private static List<Method> publicMethods() {
        List<Method> methods = new ArrayList<>();
        for (Method method : FormatVault.class.getDeclaredMethods()) {
            if (Modifier.isPublic(method.getModifiers())) {
                methods.add(method);
            }
        }
        methods.sort((a, b) -> a.getName().compareTo(b.getName()));
        return methods;
    }

    private static String told(Method method) {
        StringBuilder text = new StringBuilder();
        text.append(method.getReturnType()).append(' ').append(method.getName()).append('(');
        for (Class<?> type : method.getParameterTypes()) {
            text.append(text.charAt(text.length() - 1) == '(' ? "" : ", ").append(type);
        }
        text.append(')');
        for (Class<?> type : method.getExceptionTypes()) {
            text.append(' ').append(type.getSimpleName().replace("Illegal", "").charAt(0));
        }
        return text.toString();
    }

    private static void theFace() {
        TreeSet<String> found = new TreeSet<>();
        for (Method method : publicMethods()) {
            found.add(told(method));
        }
        CHECK.same("public methods", found.toString(),
                new TreeSet<>(Arrays.asList(CALLS)).toString());
        for (Method method : FormatVault.class.getDeclaredMethods()) {
            int kind = method.getModifiers() & (Modifier.PUBLIC | Modifier.PRIVATE);
            CHECK.same(method + " is public or private", kind != 0, true);
        }
        CHECK.same("constructors", FormatVault.class.getDeclaredConstructors().length, 1);
        CHECK.same("public constructors", FormatVault.class.getConstructors().length, 1);
        int modifiers = FormatVault.class.getModifiers();
        CHECK.same("the class", Modifier.toString(modifiers), "public final");
    }

    private static void theConstants() throws IllegalAccessException {
        StringBuilder found = new StringBuilder();
        for (Field field : FormatVault.class.getDeclaredFields()) {
            if (Modifier.isPublic(field.getModifiers())) {
                found.append(Modifier.toString(field.getModifiers())).append(' ');
                found.append(field.getName()).append(' ').append(field.getInt(null)).append("; ");
            } else {
                CHECK.same(field + " is private", Modifier.isPrivate(field.getModifiers()), true);
            }
        }
        CHECK.same("constants", found.toString(), "public static final NONE -1; "
                + "public static final KEPT 0; public static final RELEASED 1; "
                + "public static final LOST 2; ");
    }

    private static void theClassesInside() {
        TreeSet<String> names = new TreeSet<>();
        publicMethods().forEach(method -> names.add(method.getName()));
        List<Class<?>> classes = new ArrayList<>(List.of(FormatVault.class));
        classes.addAll(Arrays.asList(FormatVault.class.getDeclaredClasses()));
        CHECK.same("at most twelve classes", classes.size() <= 12, true);
        for (Class<?> type : classes) {
            int fields = 0;
            for (Field field : type.getDeclaredFields()) {
                fields += Modifier.isStatic(field.getModifiers()) ? 0 : 1;
                boolean isConstant = !Modifier.isStatic(field.getModifiers())
                        || Modifier.isFinal(field.getModifiers());
                CHECK.same(field + " is no static state", isConstant, true);
            }
            CHECK.same(type + " has at most twenty fields", fields <= 20, true);
            for (Method method : type.getDeclaredMethods()) {
                boolean isFace = type == FormatVault.class
                        && Modifier.isPublic(method.getModifiers());
                CHECK.same(method + " has a name of its own",
                        isFace || !names.contains(method.getName()), true);
                CHECK.same(method + " has few parameters", method.getParameterCount() <= 7, true);
            }
            if (type != FormatVault.class) {
                CHECK.same(type + " is static", Modifier.isStatic(type.getModifiers()), true);
                CHECK.same(type + " is public", Modifier.isPublic(type.getModifiers()), false);
            }
        }
    }

    /** What the language leaves out and a search finds. */
    private static void theText() throws IOException {
        String text = Files.readString(Path.of("src/main/java/FormatVault.java"));
        for (String word : new String[] {"import ", "package ", "catch", "finally", "->", "::",
            "synchronized", "assert ", "Exact(", "random", "System.", "hashCode", "toString"}) {
            CHECK.same("the text has '" + word + "'", text.contains(word), false);
        }
        CHECK.same("signs above 127", text.chars().filter(sign -> sign > 127).count(), 0);
    }

    /** Each exception has to be one that its method names, and none that the machine throws. */
    private static void wildArguments(int run) throws IllegalAccessException {
        FormatVault vault = new FormatVault();
        int[] values = {0, 1, 2, 3, 4, 5, 9, 10, -1, -2, 29, 30, 31, 32, 39, 40, 63, 64, 100, 101,
            500, 501, 1000, 1001, Integer.MAX_VALUE, Integer.MIN_VALUE, 1 << 16, 1 << 30};
        long seed = run + 5;
        List<Method> methods = publicMethods();
        for (int call = 0; call < 512; call++) {
            seed = seed * 6364136223846793005L + 1442695040888963407L;
            Method method = methods.get((int) ((seed >>> 33) % methods.size()));
            Object[] arguments = new Object[method.getParameterCount()];
            for (int i = 0; i < arguments.length; i++) {
                seed = seed * 6364136223846793005L + 1442695040888963407L;
                int value = (int) ((seed >>> 33) % ((seed >>> 20) % 5 == 0 ? values.length : 6));
                boolean isTruth = method.getParameterTypes()[i] == boolean.class;
                arguments[i] = isTruth ? (Object) (value % 2 == 0) : (Object) values[value];
            }
            checkException(vault, method, arguments);
        }
    }

    private static void checkException(FormatVault vault, Method method, Object[] arguments)
            throws IllegalAccessException {
        try {
            method.invoke(vault, arguments);
        } catch (InvocationTargetException e) {
            Class<?> type = e.getCause().getClass();
            boolean isNamed = Arrays.asList(method.getExceptionTypes()).contains(type);
            CHECK.same(method.getName() + Arrays.toString(arguments) + " throws "
                    + type.getName() + ", named", isNamed, true);
        }
    }
}
