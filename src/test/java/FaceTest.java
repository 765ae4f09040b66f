import java.io.IOException;
import java.lang.reflect.Constructor;
import java.lang.reflect.Field;
import java.lang.reflect.Method;
import java.lang.reflect.Modifier;
import java.nio.file.Files;
import java.nio.file.Path;
import java.util.ArrayList;
import java.util.List;
import java.util.Set;
import java.util.TreeSet;
import java.util.regex.Pattern;

/** The public face of the document, and those rules of LANGUAGE.md that a program can look at. */
public final class FaceTest {
    private static final String FACE = "acts() back() below(int) count(int) crash() drop(int) end(int) entry(int,int)"
        + " fault() feed(int,int,int,int,int) flush() from(int,int) holds(int) image() key(int,int) log(int,int) merge()"
        + " octet(int,int) old(int) overlap(int,int) pick(int) put(int,int,int) quit() rank(int,boolean)"
        + " record(int,int,int) run(int,int) segment(int,int) step(int) store(int,int,int,int) sweep(int,int) sync()"
        + " traces(int,int) undo() why() would(int,int)";
    private static final String[] OUTSIDE = {"->", "::", "\\bsynchronized\\b", "\\bassert\\b", "\\bfinally\\b",
        "\\btry\\b", "\\bcatch\\b", "\\bvar\\b", "\\bHash", "\\bSystem\\.(?!arraycopy)", "Exact\\(", "\\.hashCode",
        "\\bdouble\\b", "\\bfloat\\b", "\\bprotected\\b", "\\bvolatile\\b", "\\bRandom\\b", "\\bThread\\b", "static \\{"};

    public static void main(String[] args) throws IOException {
        publicFace();
        membersAndFields();
        text(Files.readString(Path.of("src/main/java/AsideStore.java")));
        Check.end();
    }

    private static void publicFace() {
        Set<String> found = new TreeSet<>();
        Set<String> open = new TreeSet<>();
        for (Method m : AsideStore.class.getDeclaredMethods()) {
            if (Modifier.isPublic(m.getModifiers())) {
                List<String> types = new ArrayList<>();
                for (Class<?> type : m.getParameterTypes()) {
                    types.add(type.getName());
                }
                found.add(m.getName() + "(" + String.join(",", types) + ")");
                open.add(m.getName());
                String due = m.getName().equals("image") ? "void"
                    : m.getName().equals("end") || m.getName().equals("back") ? "boolean" : "int";
                Check.due(m.getName() + " answers", due, () -> m.getReturnType().getName());
            }
        }
        Check.due("the face", new TreeSet<>(List.of(FACE.split(" "))).toString(), () -> found);
        Constructor<?>[] made = AsideStore.class.getDeclaredConstructors();
        Check.due("constructors", 1, () -> made.length);
        Check.due("public", true, () -> Modifier.isPublic(made[0].getModifiers()));
        Check.due("public final", true, () -> Modifier.isFinal(AsideStore.class.getModifiers())
            && Modifier.isPublic(AsideStore.class.getModifiers()));
        for (Method m : AsideStore.class.getDeclaredMethods()) {
            boolean isPublic = Modifier.isPublic(m.getModifiers());
            Check.due(m.getName() + " is private or of the face", true,
                () -> isPublic || Modifier.isPrivate(m.getModifiers()) && !open.contains(m.getName()));
        }
        for (Class<?> inside : AsideStore.class.getDeclaredClasses()) {
            for (Method m : inside.getDeclaredMethods()) {
                Check.due(inside.getSimpleName() + "." + m.getName() + " has a name of its own", false,
                    () -> open.contains(m.getName()));
            }
        }
    }

    private static void membersAndFields() {
        List<Class<?>> all = new ArrayList<>(List.of(AsideStore.class.getDeclaredClasses()));
        Check.due("at most some twelve classes", true, () -> all.size() < 12);
        for (Class<?> inside : all) {
            Check.due(inside + " is static", true, () -> Modifier.isStatic(inside.getModifiers()));
        }
        all.add(AsideStore.class);
        for (Class<?> one : all) {
            int fields = 0;
            for (Field f : one.getDeclaredFields()) {
                int m = f.getModifiers();
                fields += Modifier.isStatic(m) ? 0 : 1;
                Check.due(f + " is no static state", true, () -> !Modifier.isStatic(m) || Modifier.isFinal(m));
                Check.due(f + " is private or the constant, or lies inside", true, () -> one != AsideStore.class
                    || Modifier.isPrivate(m) || f.getName().equals("NONE"));
            }
            int n = fields;
            Check.due(one + " has at most some twenty fields", true, () -> n <= 20);
            for (Method m : one.getDeclaredMethods()) {
                Check.due(m + " takes at most seven", true, () -> m.getParameterCount() <= 7);
            }
        }
    }

    private static void text(String source) {
        String code = source.replaceAll("(?s)/\\*.*?\\*/", "").replaceAll("//[^\n]*", "").replaceAll("\"[^\"]*\"", "\"\"");
        for (String outside : OUTSIDE) {
            Check.due("no " + outside, false, () -> Pattern.compile(outside).matcher(code).find());
        }
        Check.due("one import", "import java.util.NoSuchElementException;",
            () -> String.join("", code.lines().filter(line -> line.startsWith("import")).toList()));
        Check.due("signs", true, () -> source.chars().allMatch(c -> c == '\n' || c >= 32 && c < 127));
        int length = 0;
        for (String line : code.split("\n")) {
            boolean isHead = line.matches("( {4}| {8})[a-zA-Z].*\\) .*\\{");
            length = isHead ? 0 : length + 1;
            int n = length;
            if (line.matches("( {4}| {8})\\}")) {
                Check.due("a method of " + n + " lines", true, () -> n <= 60 || line.equals("    }"));
            }
        }
    }
}
