import java.io.IOException;
import java.lang.reflect.Constructor;
import java.lang.reflect.Field;
import java.lang.reflect.Method;
import java.lang.reflect.Modifier;
import java.nio.file.Files;
import java.nio.file.Path;
import java.util.HashSet;
import java.util.Set;
import java.util.TreeSet;
import java.util.stream.Collectors;
import java.util.stream.Stream;

/** The public face is that of the document, and the source keeps to what can be told of LANGUAGE.md by reading. */
final class FaceTest {
    private static final Path DOCUMENT = Path.of("../shared/DOC.md");
    private static final Path SOURCE = Path.of("src/main/java/StoneGazette.java");

    private FaceTest() {
    }

    public static void main(String[] args) throws IOException {
        face();
        names();
        source();
        Check.end();
    }

    private static void face() throws IOException {
        Set<String> due = new TreeSet<>();
        for (String line : Files.readAllLines(DOCUMENT)) {
            if (line.startsWith("    public ") && line.endsWith(";")) {
                due.add(line.strip().replaceAll("(int|char) [a-z]+([,)])", "$1$2").replace(";", ""));
            }
        }
        Check.same("the document has a face", due.isEmpty(), false);
        Set<String> got = new TreeSet<>();
        for (Constructor<?> constructor : StoneGazette.class.getDeclaredConstructors()) {
            got.add("public StoneGazette" + list("(", constructor.getParameterTypes(), ")"));
        }
        for (Method method : StoneGazette.class.getDeclaredMethods()) {
            if (!Modifier.isPrivate(method.getModifiers()) && !method.isSynthetic()) {
                String head = "public " + method.getReturnType().getSimpleName() + " " + method.getName();
                String thrown = method.getExceptionTypes().length == 0 ? "" : list(" throws ", method.getExceptionTypes(), "");
                got.add(head + list("(", method.getParameterTypes(), ")") + thrown);
            }
        }
        Check.same("face", got, due);
        Check.same("final", Modifier.isFinal(StoneGazette.class.getModifiers()), true);
    }

    private static String list(String before, Class<?>[] types, String behind) {
        return Stream.of(types).map(Class::getSimpleName).collect(Collectors.joining(", ", before, behind));
    }

    private static void names() {
        Set<String> open = new HashSet<>();
        for (Method method : StoneGazette.class.getMethods()) {
            open.add(method.getName());
        }
        int classes = 1;
        for (Class<?> inside : StoneGazette.class.getDeclaredClasses()) {
            classes++;
            Check.same(inside + " is static", Modifier.isStatic(inside.getModifiers()), true);
            Check.same(inside + " is closed", Modifier.isPublic(inside.getModifiers()), false);
            for (Method method : inside.getDeclaredMethods()) {
                boolean ofEnum = inside.isEnum() && Modifier.isStatic(method.getModifiers());
                Check.same(method + " has a name of its own", !ofEnum && open.contains(method.getName()), false);
            }
            fields(inside);
        }
        fields(StoneGazette.class);
        for (Method method : StoneGazette.class.getDeclaredMethods()) {
            boolean shared = Modifier.isPrivate(method.getModifiers()) && open.contains(method.getName());
            Check.same(method + " has a name of its own", shared, false);
        }
        Check.same("at most twelve classes", classes <= 12, true);
    }

    private static void fields(Class<?> owner) {
        for (Field field : owner.getDeclaredFields()) {
            boolean open = !Modifier.isStatic(field.getModifiers()) || Modifier.isFinal(field.getModifiers());
            Check.same(field + " is no static state", open, true);
            boolean closed = Modifier.isPrivate(field.getModifiers()) || owner.isEnum();
            Check.same(field + " is private", closed, true);
            boolean floating = field.getType() == float.class || field.getType() == double.class;
            Check.same(field + " is no constant of floats", Modifier.isStatic(field.getModifiers()) && floating, false);
        }
    }

    private static void source() throws IOException {
        String text = Files.readString(SOURCE).replaceAll("(?s)/\\*.*?\\*/", "").replaceAll("//[^\n]*", "");
        String[] ruledOut = {"catch", "finally", "->", "::", "synchronized", "assert", "instanceof", "package ", "Random",
            "System.nano", "System.current", "Thread", "String.valueOf", "Exact(", ".stream", "Float.", "Double.", "@"};
        for (String piece : ruledOut) {
            Check.same("source holds " + piece, text.contains(piece), false);
        }
        for (String line : text.split("\n")) {
            if (line.startsWith("import ")) {
                Check.same(line, line.matches("import java\\.util\\.(ArrayList|NoSuchElementException);"), true);
            }
        }
    }
}
