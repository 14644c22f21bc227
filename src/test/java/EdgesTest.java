import java.io.IOException;
import java.nio.file.Files;
import java.nio.file.Path;

/** Every sentence of the document that names a boundary case has a test of its own, under its own words. */
final class EdgesTest {
    private static final Path DOCUMENT = Path.of("../shared/DOC.md");

    private EdgesTest() {
    }

    public static void main(String[] args) throws IOException {
        ArticlesEdges.run();
        LinesEdges.run();
        IssuesEdges.run();
        OutputEdges.run();
        CommandsEdges.run();
        UndoEdges.run();
        everySentenceIsTested();
        Check.end();
    }

    private static void everySentenceIsTested() throws IOException {
        String text = Files.readString(DOCUMENT).replaceAll("(?s)```.*?```", "");
        int promises = 0;
        for (String section : text.split("(?m)^## ")) {
            String title = section.lines().findFirst().orElse("");
            String body = section.substring(Math.min(section.length(), title.length()));
            if (title.matches("Promise \\d+: .*")) {
                promises++;
                sentencesAreTested(Integer.parseInt(title.replaceAll("Promise (\\d+): .*", "$1")), body);
            } else if (!title.equals("Not promised")) {
                sentencesAreTested(0, body);
            }
        }
        Check.same("the document has promises", promises > 0, true);
    }

    /** A test for any promise will do for a sentence that stands before the promises. */
    private static void sentencesAreTested(int promise, String body) {
        for (String paragraph : body.split("\n\\s*\n|\n(?=- `)")) {
            String line = paragraph.strip().replaceAll("\\s+", " ").replaceFirst("^- ", "").replaceFirst("^`[^`]*\\(.*?`: ", "");
            for (String sentence : line.split("(?<=[.:]) (?=[A-Z])")) {
                if (!namesNoBoundary(sentence)) {
                    Check.same("promise " + promise + " has a test of: " + sentence, Sentence.isTested(promise, sentence), true);
                }
            }
        }
    }

    private static boolean namesNoBoundary(String sentence) {
        return sentence.isEmpty() || isHeading(sentence) || isPlainParameter(sentence) || repeatsThePromise(sentence);
    }

    private static boolean isHeading(String sentence) {
        return sentence.startsWith("Ahead of the calls ") || sentence.startsWith("A newspaper on stone: ")
            || sentence.matches("(Words and texts|Articles|Divisions|Lines|Even breaking|Pages and issues|Fading|Corrections"
                + "|Commands|Undo)\\.|.*StoneGazette");
    }

    private static boolean isPlainParameter(String sentence) {
        return sentence.matches("`[a-z]+`: .*") && !sentence.matches(".*(from 0|any ).*");
    }

    /** Says what another sentence of the same promise says in more words. */
    private static boolean repeatsThePromise(String sentence) {
        return sentence.matches("(Appends a character to the (text|command buffer)|Prints an issue|Lets days pass)\\.")
            || sentence.matches("Returns the (priority|width|badness|coverage|freshness|bits|mean|character|error position)\\.")
            || sentence.matches("Returns the number of (words|letters|positions|corrections|lines|characters|issues|days)\\.")
            || sentence.matches("Returns (the index of the command|true if it can be set|true if it is readable)\\.");
    }
}
