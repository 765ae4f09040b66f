import java.io.IOException;
import java.lang.reflect.InvocationTargetException;
import java.lang.reflect.Method;
import java.nio.file.Files;
import java.nio.file.Path;
import java.util.regex.Matcher;
import java.util.regex.Pattern;

/** Does the lines of code of README.md, so that what it shows stays true. */
public final class ReadmeTest {
    private static final Pattern LINE = Pattern.compile("store\\.(\\w+)\\(([^)]*)\\);\\s+// (-?\\w+)(:.*)?");
    private static int done;

    public static void main(String[] args) throws IOException {
        AsideStore store = new AsideStore();
        boolean isCode = false;
        for (String line : Files.readAllLines(Path.of("README.md"))) {
            isCode = line.startsWith("```") ? line.equals("```java") : isCode;
            if (isCode && line.startsWith("store.")) {
                doLine(store, line);
            }
        }
        Check.due("lines done", 24, () -> done);
        Check.end();
    }

    private static void doLine(AsideStore store, String line) {
        Matcher found = LINE.matcher(line);
        if (!found.matches()) {
            Check.due("a call with its answer behind it", line, () -> "none");
            return;
        }
        done++;
        String[] told = found.group(2).isEmpty() ? new String[0] : found.group(2).split(", ");
        Check.due(line, found.group(3), () -> called(store, found.group(1), told));
    }

    private static Object called(AsideStore store, String name, String[] told) {
        Object[] numbers = new Object[told.length];
        Class<?>[] types = new Class<?>[told.length];
        for (int i = 0; i < told.length; i++) {
            numbers[i] = told[i].equals("AsideStore.NONE") ? AsideStore.NONE : Integer.decode(told[i]);
            types[i] = int.class;
        }
        try {
            Method method = AsideStore.class.getMethod(name, types);
            return method.invoke(store, numbers);
        } catch (InvocationTargetException e) {
            return e.getCause();
        } catch (ReflectiveOperationException e) {
            return e;
        }
    }
}
