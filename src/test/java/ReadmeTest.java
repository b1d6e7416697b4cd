import java.io.IOException;
import java.lang.reflect.InvocationTargetException;
import java.lang.reflect.Method;
import java.nio.file.Files;
import java.nio.file.Path;
import java.util.TreeSet;
import java.util.regex.Matcher;
import java.util.regex.Pattern;

/** Makes the calls of README.md's example, so that what it says of their answers stays true. */
public final class ReadmeTest {
    private static final Pattern CALL = Pattern.compile("index\\.(\\w+)\\((.*?)\\);(.*)");
    private static final Pattern DUE = Pattern.compile("// ((?:answers|throws) [^:\\s]+)");

    private final LinkedIndex index = new LinkedIndex();
    private final TreeSet<String> shown = new TreeSet<>();

    public static void main(String[] args) throws IOException, ReflectiveOperationException {
        ReadmeTest test = new ReadmeTest();
        for (String line : Files.readAllLines(Path.of("README.md"))) {
            Matcher call = CALL.matcher(line);
            if (call.matches()) {
                test.makeCall(line, call.group(1), call.group(2), call.group(3));
            }
        }
        Checks.due("calls that the example shows", test.shown, face());
        Checks.end();
    }

    private static TreeSet<String> face() {
        TreeSet<String> names = new TreeSet<>();
        for (Method method : LinkedIndex.class.getMethods()) {
            if (method.getDeclaringClass() == LinkedIndex.class) {
                names.add(method.getName());
            }
        }
        return names;
    }

    /** A comment that tells neither an answer nor an exception stands behind a call without an answer. */
    private void makeCall(String line, String name, String arguments, String comment)
            throws ReflectiveOperationException {
        shown.add(name);
        Matcher due = DUE.matcher(comment);
        Checks.due(line, answer(method(name), arguments), due.find() ? due.group(1) : Checks.NOTHING);
    }

    private static Method method(String name) throws NoSuchMethodException {
        for (Method method : LinkedIndex.class.getMethods()) {
            if (method.getName().equals(name)) {
                return method;
            }
        }
        throw new NoSuchMethodException(name);
    }

    private String answer(Method method, String arguments) throws ReflectiveOperationException {
        Class<?>[] types = method.getParameterTypes();
        String[] texts = arguments.split(", ");
        Object[] values = new Object[types.length];
        for (int i = 0; i < types.length; i++) {
            values[i] = argument(types[i], texts[i]);
        }
        try {
            Object answer = method.invoke(index, values);
            return method.getReturnType() == void.class ? Checks.NOTHING : "answers " + answer;
        } catch (InvocationTargetException e) {
            return "throws " + e.getCause().getClass().getSimpleName();
        }
    }

    private static Object argument(Class<?> type, String text) throws ReflectiveOperationException {
        String constant = "LinkedIndex.";
        if (text.startsWith(constant)) {
            return LinkedIndex.class.getField(text.substring(constant.length())).get(null);
        }
        if (type == int.class) {
            return Integer.valueOf(text);
        }
        return Long.valueOf(text);
    }
}
