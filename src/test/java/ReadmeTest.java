import java.io.IOException;
import java.lang.reflect.InvocationTargetException;
import java.lang.reflect.Method;
import java.nio.file.Files;
import java.nio.file.Path;
import java.util.ArrayList;
import java.util.List;
import java.util.regex.Matcher;
import java.util.regex.Pattern;

/** README.md tells every call with what it throws, and the calls of its example answer what stands behind them. */
final class ReadmeTest {
    private static final Path README = Path.of("README.md");
    private static final Path DOCUMENT = Path.of("../shared/DOC.md");
    private static final Pattern TYPED = Pattern.compile("for \\(char letter : \"(.*)\"\\.toCharArray\\(\\)\\) \\{");
    private static final Pattern LETTER = Pattern.compile("gazette\\.(type|feed)\\(letter\\);");
    private static final Pattern ANSWERED = Pattern.compile("gazette\\.(\\w+)\\(([-0-9, ]*)\\);\\s*// ([^,]+)(,.*)?");

    private ReadmeTest() {
    }

    public static void main(String[] args) throws IOException {
        calls();
        example();
        Check.end();
    }

    /** A call and its exceptions, in the document's order, as "call(int a) [First, Second]". */
    private static List<String> promisedCalls() throws IOException {
        List<String> calls = new ArrayList<>();
        Pattern face = Pattern.compile(" {4}public \\w+ (\\w+\\(.*?\\))(?: throws (.*))?;");
        for (String line : Files.readAllLines(DOCUMENT)) {
            Matcher found = face.matcher(line);
            if (found.matches()) {
                calls.add(found.group(1) + " [" + (found.group(2) == null ? "" : found.group(2)) + "]");
            }
        }
        return calls;
    }

    private static void calls() throws IOException {
        List<String> told = new ArrayList<>();
        for (String line : Files.readAllLines(README)) {
            Matcher row = Pattern.compile("\\| `(\\w+\\(.*?\\))` \\| (.*) \\| (.*)\\|").matcher(line);
            if (row.matches()) {
                List<String> thrown = new ArrayList<>();
                Pattern.compile("`(\\w+Exception)`: [^;]+").matcher(row.group(3)).results().forEach(one -> thrown.add(one.group(1)));
                told.add(row.group(1) + " [" + String.join(", ", thrown) + "]");
                Check.same("README says what " + row.group(1) + " answers", row.group(2).isBlank(), false);
            }
        }
        List<String> due = promisedCalls();
        Check.same("the document has 52 calls beside the constructor", due.size(), 52);
        Check.same("calls of README", told, due);
    }

    private static void example() throws IOException {
        String text = Files.readString(README);
        int start = text.indexOf("```java\n") + "```java\n".length();
        List<String> lines = text.substring(start, text.indexOf("```", start)).lines().map(String::strip).toList();
        Check.same("the example begins", lines.get(0), "StoneGazette gazette = new StoneGazette();");
        StoneGazette gazette = new StoneGazette();
        String letters = "";
        int answered = 0;
        for (String line : lines.subList(1, lines.size())) {
            Matcher typed = TYPED.matcher(line);
            Matcher letter = LETTER.matcher(line);
            Matcher call = ANSWERED.matcher(line);
            if (typed.matches()) {
                letters = typed.group(1);
            } else if (letter.matches() && letter.group(1).equals("type")) {
                Check.type(gazette, letters);
            } else if (letter.matches()) {
                Check.feed(gazette, letters);
            } else if (call.matches()) {
                answered++;
                Check.same("README: " + line, answer(gazette, call.group(1), call.group(2)), call.group(3).strip());
            } else {
                Check.same("README: a line of the example", line, "}");
            }
        }
        Check.same("README shows answers", answered > 0, true);
    }

    private static String answer(StoneGazette gazette, String name, String numbers) {
        Object[] arguments = numbers.isEmpty() ? new Object[0] : Pattern.compile(", ").splitAsStream(numbers).map(Integer::valueOf).toArray();
        for (Method method : StoneGazette.class.getMethods()) {
            if (method.getName().equals(name) && method.getParameterCount() == arguments.length) {
                return invoke(gazette, method, arguments);
            }
        }
        return "no such call";
    }

    private static String invoke(StoneGazette gazette, Method method, Object[] arguments) {
        try {
            return String.valueOf(method.invoke(gazette, arguments));
        } catch (InvocationTargetException e) {
            return "throws " + e.getCause().getClass().getSimpleName();
        } catch (IllegalAccessException | IllegalArgumentException e) {
            return "not to be called: " + e;
        }
    }
}
