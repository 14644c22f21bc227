import java.util.NoSuchElementException;

/** What the tests share: comparing answers, expecting exceptions, and typing whole texts. */
final class Check {
    static final Class<? extends RuntimeException> ARGUMENT = IllegalArgumentException.class;
    static final Class<? extends RuntimeException> STATE = IllegalStateException.class;
    static final Class<? extends RuntimeException> UNSUPPORTED = UnsupportedOperationException.class;
    static final Class<? extends RuntimeException> NO_ELEMENT = NoSuchElementException.class;
    static final Class<? extends RuntimeException> BOUNDS = IndexOutOfBoundsException.class;
    static final Class<? extends RuntimeException> ARITHMETIC = ArithmeticException.class;

    private static int wrong = 0;
    private static int made = 0;

    private Check() {
    }

    interface Call {
        Object run();
    }

    /** Boxed answers are compared with their type, so that 1 is neither 1.0f nor true. */
    static void same(String what, Object got, Object due) {
        made++;
        if (!due.equals(got)) {
            wrong++;
            System.out.println(what + ": answered " + got + ", due is " + due);
        }
    }

    static void fails(String what, Class<? extends RuntimeException> due, Call call) {
        same(what, outcome(call), "throws " + due.getName());
    }

    /** The answer of a call, or the exact class of what it throws with a throw statement. */
    static Object outcome(Call call) {
        try {
            return call.run();
        } catch (RuntimeException e) {
            return "throws " + e.getClass().getName() + (isOwn(e) ? "" : " by the library");
        }
    }

    /** A list's get, say, throws the same class as the document wants, but from a frame of its own. */
    private static boolean isOwn(RuntimeException thrown) {
        StackTraceElement[] frames = thrown.getStackTrace();
        return frames.length > 0 && frames[0].getClassName().matches("(StoneGazette|Mirror)(\\$.*)?");
    }

    static void type(StoneGazette gazette, String text) {
        for (char character : text.toCharArray()) {
            gazette.type(character);
        }
    }

    /** A newspaper with an article for each text, all with the same priority. */
    static StoneGazette with(String... texts) {
        StoneGazette gazette = new StoneGazette();
        for (String text : texts) {
            add(gazette, 5, text);
        }
        return gazette;
    }

    static int add(StoneGazette gazette, int priority, String text) {
        type(gazette, text);
        return gazette.addArticle(priority);
    }

    static int correct(StoneGazette gazette, int article, int word, String text) {
        type(gazette, text);
        return gazette.correct(article, word);
    }

    static void feed(StoneGazette gazette, String commands) {
        for (char character : commands.toCharArray()) {
            gazette.feed(character);
        }
    }

    static int execute(StoneGazette gazette, String commands) {
        feed(gazette, commands);
        return gazette.execute();
    }

    /** The words of an article, or whatever was written last as the output. */
    static String output(StoneGazette gazette, int length) {
        StringBuilder read = new StringBuilder();
        for (int i = 0; i < length; i++) {
            read.append(gazette.outputCharacter(i));
        }
        same("output ends after " + length, outcome(() -> gazette.outputCharacter(length)), "throws " + BOUNDS.getName());
        return read.toString();
    }

    static String written(StoneGazette gazette, int article) {
        return output(gazette, gazette.writeArticle(article));
    }

    static String lines(StoneGazette gazette, int article) {
        StringBuilder read = new StringBuilder();
        for (int line = 0; line < gazette.lineCount(article); line++) {
            read.append(line == 0 ? "" : "/").append(output(gazette, gazette.writeLine(article, line)));
        }
        return read.toString();
    }

    static void end() {
        System.out.println(made + " answers looked at, " + wrong + " wrong");
        if (wrong != 0) {
            System.exit(1);
        }
    }
}
