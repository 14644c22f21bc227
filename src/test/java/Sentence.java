import java.util.TreeSet;

/** A sentence of the document that names a boundary case: what its test says begins with the promise and the sentence. */
final class Sentence {
    private static final TreeSet<String> TESTED = new TreeSet<>();
    private static final int[] FAR = {Integer.MIN_VALUE, -1, Integer.MAX_VALUE};

    private final int promise;
    private final String words;

    Sentence(int promise, String words) {
        this.promise = promise;
        this.words = words;
    }

    interface ArticleCall {
        Object run(StoneGazette gazette, int article);
    }

    interface PartCall {
        Object run(StoneGazette gazette, int article, int part);
    }

    interface IssueCall {
        Object run(StoneGazette gazette, int issue);
    }

    /** Tells whether a test of the sentence was made: for any promise, if it is 0. */
    static boolean isTested(int promise, String words) {
        return TESTED.contains(promise + words);
    }

    private String head(String what) {
        TESTED.add(promise + words);
        TESTED.add(0 + words);
        return "promise " + promise + ", \"" + words + "\": " + what;
    }

    void same(String what, Object got, Object due) {
        Check.same(head(what), got, due);
    }

    void fails(String what, Class<? extends RuntimeException> due, Check.Call call) {
        Check.fails(head(what), due, call);
    }

    void works(String what, Check.Call call) {
        same(what + " is refused", Check.outcome(call).toString().startsWith("throws "), false);
    }

    private void failsFar(String what, Class<? extends RuntimeException> due, IssueCall call, StoneGazette gazette) {
        for (int number : FAR) {
            fails(what + " " + number, due, () -> call.run(gazette, number));
        }
    }

    /** The call must take the articles 0 to 2 of three, whose words and lines are numbered 0 alone. */
    static void noSuchArticle(int promise, ArticleCall call) {
        Sentence asked = new Sentence(promise, "Throws `NoSuchElementException` if there is no such article");
        StoneGazette empty = new StoneGazette();
        asked.fails("no articles at all", Check.NO_ELEMENT, () -> call.run(empty, 0));
        StoneGazette gazette = Check.with("moss", "slate", "chalk");
        gazette.print();
        gazette.removeArticle(1);
        asked.fails("a removed one, in a kept issue", Check.NO_ELEMENT, () -> call.run(gazette, 1));
        asked.fails("the id given next", Check.NO_ELEMENT, () -> call.run(gazette, 3));
        asked.failsFar("article", Check.NO_ELEMENT, call::run, gazette);
        gazette.undo();
        asked.works("the last one", () -> call.run(gazette, 2));
        asked.works("the removed one, which is back", () -> call.run(gazette, 1));
        asked.works("the first one", () -> call.run(gazette, 0));
        StoneGazette undone = Check.with("moss", "slate");
        undone.undo();
        asked.fails("an undone one", Check.NO_ELEMENT, () -> call.run(undone, 1));
    }

    /** The call must take the words 0 to 2 of the article 0. */
    static void noSuchWord(int promise, PartCall call) {
        Sentence asked = new Sentence(promise, "Throws `IndexOutOfBoundsException` if there is no such word");
        StoneGazette gazette = Check.with("moss is a", "moss is a fern");
        asked.fails("the number behind the last one", Check.BOUNDS, () -> call.run(gazette, 0, 3));
        asked.failsFar("word", Check.BOUNDS, (made, word) -> call.run(made, 0, word), gazette);
        asked.works("the last word", () -> call.run(gazette, 0, 2));
        asked.works("the first word", () -> call.run(gazette, 0, 0));
        asked.works("the last word of a longer article", () -> call.run(gazette, 1, 3));
    }

    static void noSuchLine(int promise, PartCall call) {
        Sentence asked = new Sentence(promise, "Throws `IndexOutOfBoundsException` if there is no such line");
        StoneGazette gazette = Check.with("moss grows on stone", "moss grows on stone and slate");
        asked.fails("the number behind the last one", Check.BOUNDS, () -> call.run(gazette, 0, 2));
        asked.failsFar("line", Check.BOUNDS, (made, line) -> call.run(made, 0, line), gazette);
        asked.works("the last line", () -> call.run(gazette, 0, 1));
        asked.works("the first line", () -> call.run(gazette, 0, 0));
        asked.works("the last line of a longer article", () -> call.run(gazette, 1, 2));
        gazette.setWidth(20);
        asked.fails("a line that was there in narrower columns", Check.BOUNDS, () -> call.run(gazette, 0, 1));
    }

    static void cannotBeSet(int promise, ArticleCall call) {
        Sentence asked = new Sentence(promise, "Throws `UnsupportedOperationException` if the article cannot be set");
        StoneGazette gazette = Check.with("a rhythm", "a", "babbbbbb");
        gazette.setWidth(5);
        asked.fails("a whole word does not fit", Check.UNSUPPORTED, () -> call.run(gazette, 0));
        asked.works("an article that can be set, beside it", () -> call.run(gazette, 1));
        asked.fails("the rest of a word does not fit", Check.UNSUPPORTED, () -> call.run(gazette, 2));
        gazette.setWidth(6);
        asked.works("the word just fits", () -> call.run(gazette, 0));
        asked.works("the rest just fits", () -> call.run(gazette, 2));
    }

    static void tooLongWord(int promise, ArticleCall call) {
        Sentence asked = new Sentence(promise, "Throws `UnsupportedOperationException` if a word is longer than the column width");
        StoneGazette gazette = Check.with("tomato a b", "a tomato b", "a b tomato", "a b");
        gazette.setWidth(5);
        for (int article = 0; article < 3; article++) {
            int tried = article;
            asked.fails("by one letter, in article " + article, Check.UNSUPPORTED, () -> call.run(gazette, tried));
        }
        asked.works("another article", () -> call.run(gazette, 3));
        gazette.setWidth(6);
        for (int article = 0; article < 3; article++) {
            int tried = article;
            asked.works("a word as long as the width, in article " + article, () -> call.run(gazette, tried));
        }
    }

    /** The call must take issues that contain the article 0. */
    static void noSuchIssue(int promise, String words, IssueCall call) {
        Sentence asked = new Sentence(promise, words);
        StoneGazette gazette = Check.with("moss");
        asked.fails("no issues at all", Check.NO_ELEMENT, () -> call.run(gazette, 0));
        for (int issue = 0; issue < 4; issue++) {
            gazette.print();
        }
        asked.works("the oldest of four", () -> call.run(gazette, 0));
        asked.fails("the number given next", Check.NO_ELEMENT, () -> call.run(gazette, 4));
        asked.failsFar("issue", Check.NO_ELEMENT, call, gazette);
        gazette.print();
        asked.fails("the oldest of five", Check.NO_ELEMENT, () -> call.run(gazette, 0));
        asked.works("the second of five", () -> call.run(gazette, 1));
        asked.works("the last of five", () -> call.run(gazette, 4));
        gazette.undo();
        asked.fails("an undone one", Check.NO_ELEMENT, () -> call.run(gazette, 4));
        asked.works("the oldest one, which is back", () -> call.run(gazette, 0));
        gazette.passDays(30);
        asked.works("one that is not readable any more", () -> call.run(gazette, 0));
    }
}
