import java.lang.reflect.InvocationTargetException;
import java.lang.reflect.Method;
import java.util.ArrayList;
import java.util.Arrays;
import java.util.Comparator;
import java.util.List;
import java.util.Random;

/** All promises: long runs of calls whose answers must be those of the second newspaper. */
final class MirrorTest {
    private static final int RUNS = 600;
    private static final int CALLS = 512;
    private static final String[] COMMANDS = {"width ", "page ", "print", "days ", "drop ", ";", "*", "1", "2", "7", "19", " ", "p"};

    private final Random random;
    private final StoneGazette gazette = new StoneGazette();
    private final Mirror mirror = new Mirror();
    private final List<Method> methods;
    private final StringBuilder calls = new StringBuilder();
    private int compared = 0;
    private boolean wrong = false;

    private MirrorTest(int seed, List<Method> methods) {
        this.random = new Random(seed);
        this.methods = methods;
    }

    public static void main(String[] args) {
        List<Method> methods = new ArrayList<>(List.of(StoneGazette.class.getDeclaredMethods()));
        methods.removeIf(method -> !java.lang.reflect.Modifier.isPublic(method.getModifiers()));
        methods.sort(Comparator.comparing(Method::getName));
        for (int seed = 0; seed < RUNS; seed++) {
            new MirrorTest(seed, methods).run();
        }
        Check.end();
    }

    private void run() {
        for (int call = 0; call < CALLS && !wrong;) {
            int kind = random.nextInt(100);
            if (kind < 8) {
                call += typeText(kind < 3 ? 1 : 8);
            } else if (kind < 14) {
                call += feedCommands();
            } else if (kind < 20) {
                call += change();
            } else {
                call += compare(methods.get(random.nextInt(methods.size())), number(), number(), number());
            }
        }
    }

    private int number() {
        List<Integer> known = mirror.known();
        if (!known.isEmpty() && random.nextInt(3) > 0) {
            return known.get(random.nextInt(known.size()));
        }
        int kind = random.nextInt(40);
        if (kind == 0) {
            return random.nextInt();
        }
        if (kind == 1) {
            return random.nextBoolean() ? Integer.MAX_VALUE : Integer.MIN_VALUE;
        }
        return kind < 30 ? random.nextInt(6) : random.nextInt(36) - 3;
    }

    private int change() {
        String name = List.of("addArticle", "correct", "setWidth", "setPage", "passDays", "print", "undo").get(random.nextInt(7));
        for (Method method : methods) {
            if (method.getName().equals(name)) {
                int first = name.equals("setWidth") ? 4 + random.nextInt(17) : 1 + random.nextInt(4);
                return compare(method, name.equals("correct") ? number() : first, random.nextInt(8), 0);
            }
        }
        return 1;
    }

    private int typeText(int words) {
        int made = 0;
        int due = 1 + random.nextInt(words);
        for (int word = 0; word < due; word++) {
            int letters = random.nextInt(30) == 0 ? random.nextInt(14) : 1 + random.nextInt(12);
            for (int i = 0; i < letters; i++) {
                String row = random.nextInt(2) == 0 ? "aeiou" : "bcdfghjklmnpqrstvwxyz";
                made += compare(named("type"), row.charAt(random.nextInt(row.length())), 0, 0);
            }
            made += word < due - 1 || random.nextInt(20) == 0 ? compare(named("type"), ' ', 0, 0) : 0;
        }
        String then = random.nextInt(3) == 0 ? "correct" : "addArticle";
        made += compare(named(then), then.equals("correct") ? random.nextInt(5) : 1 + random.nextInt(9), random.nextInt(3), 0);
        return made + (random.nextInt(2) == 0 ? compare(named("clearText"), 0, 0, 0) : 0);
    }

    private int feedCommands() {
        StringBuilder commands = new StringBuilder();
        int parts = 1 + random.nextInt(4);
        for (int part = 0; part < parts; part++) {
            commands.append(part > 0 ? ";" : "").append(command());
        }
        if (random.nextInt(3) == 0) {
            commands.insert(random.nextInt(commands.length() + 1), COMMANDS[random.nextInt(COMMANDS.length)]);
        }
        if (random.nextInt(4) == 0) {
            commands.setLength(random.nextInt(commands.length() + 1));
        }
        for (int i = 0; i < commands.length(); i++) {
            compare(named("feed"), commands.charAt(i), 0, 0);
        }
        return commands.length() + compare(named("execute"), 0, 0, 0) + compare(named("errorPosition"), 0, 0, 0);
    }

    private String command() {
        String start = COMMANDS[random.nextInt(5)];
        String numbers = start.equals("print") ? "" : "" + random.nextInt(random.nextBoolean() ? 7 : 34);
        return start + numbers + (start.equals("page ") ? "*" + random.nextInt(random.nextBoolean() ? 7 : 24) : "");
    }

    private Method named(String name) {
        for (Method method : methods) {
            if (method.getName().equals(name)) {
                return method;
            }
        }
        throw new IllegalStateException(name);
    }

    /** Makes one call on both newspapers; a run stops at its first wrong answer. */
    private int compare(Method method, int a, int b, int c) {
        if (wrong || compared == CALLS) {
            return 1;
        }
        compared++;
        int[] numbers = {a, b, c};
        Object[] arguments = new Object[method.getParameterCount()];
        for (int i = 0; i < arguments.length; i++) {
            if (method.getParameterTypes()[i] == char.class) {
                numbers[i] = (char) numbers[i];
                arguments[i] = (char) numbers[i];
            } else {
                arguments[i] = numbers[i];
            }
        }
        String call = method.getName() + Arrays.toString(Arrays.copyOf(numbers, arguments.length));
        calls.append(call).append(' ');
        Object due = Check.outcome(() -> mirror.answer(method.getName(), numbers[0], numbers[1], numbers[2]));
        Object got = Check.outcome(() -> invoke(method, arguments));
        wrong = !due.equals(got);
        Check.same(wrong ? calls.toString() : call, got, due);
        return 1;
    }

    private Object invoke(Method method, Object[] arguments) {
        try {
            return method.invoke(gazette, arguments);
        } catch (InvocationTargetException e) {
            if (e.getCause() instanceof RuntimeException thrown) {
                throw thrown;
            }
            throw new IllegalStateException("no exception of the document", e.getCause());
        } catch (IllegalAccessException e) {
            throw new IllegalStateException("not public", e);
        }
    }
}
