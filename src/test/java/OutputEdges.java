/** Promises 41 to 45: a test for each sentence that names a boundary case. */
final class OutputEdges {
    private static final String TWELVE = "abcdefghijkl";

    private static final String MEAN_FRESHNESS = "Returns the mean freshness of the kept issues: the sum, in ascending order "
        + "of their numbers, in float arithmetic, divided by their number converted to float.";
    private static final String WRITES = "Writes an article as the output, which replaces the previous one: its id, \"!\", "
        + "its priority, \":\", and its words with single blanks between them.";

    private OutputEdges() {
    }

    static void run() {
        meanWordLengths();
        meanFreshnesses();
        sumInOrder();
        writing();
        idsOfMoreDigits();
        outputCharacters();
        consistency();
    }

    private static void meanWordLengths() {
        Sentence none = new Sentence(41, "Throws `ArithmeticException` if there are no articles");
        Sentence mean = new Sentence(41, "Returns the mean number of letters of all words of all articles: the number of letters "
            + "divided by the number of words, both converted to double.");
        StoneGazette gazette = new StoneGazette();
        none.fails("a new object", Check.ARITHMETIC, gazette::meanWordLength);
        Check.type(gazette, "moss");
        none.fails("a text is no article", Check.ARITHMETIC, gazette::meanWordLength);
        gazette.addArticle(5);
        mean.same("one word", gazette.meanWordLength(), 4.0);
        gazette.removeArticle(0);
        none.fails("all articles were removed", Check.ARITHMETIC, gazette::meanWordLength);
        gazette.undo();
        none.same("one is back", gazette.meanWordLength(), 4.0);
        mean.same("the least", Check.with("a b", "c").meanWordLength(), 1.0);
        mean.same("the greatest", Check.with(TWELVE, TWELVE).meanWordLength(), 12.0);
        mean.same("not a whole number", Check.with("ab a a").meanWordLength(), 4.0 / 3.0);
        mean.same("words of six articles, not of means", Check.with("aa", "a a a", "a", "a", "a", "a").meanWordLength(), 9.0 / 8.0);
    }

    private static void meanFreshnesses() {
        Sentence none = new Sentence(42, "Throws `ArithmeticException` if no issue is kept");
        Sentence mean = new Sentence(42, MEAN_FRESHNESS);
        StoneGazette gazette = Check.with("a");
        none.fails("none was printed", Check.ARITHMETIC, gazette::meanFreshness);
        gazette.print();
        mean.same("one", gazette.meanFreshness(), 1.0f);
        gazette.undo();
        none.fails("the only one was undone", Check.ARITHMETIC, gazette::meanFreshness);
        gazette.print();
        gazette.passDays(30);
        none.same("one that is not readable is kept", gazette.meanFreshness(), gazette.freshness(0));
        for (int i = 0; i < 4; i++) {
            gazette.print();
        }
        mean.same("four, the first one is not kept", gazette.meanFreshness(), 1.0f);
        gazette.passDays(1);
        gazette.print();
        mean.same("three of one age, and the last", gazette.meanFreshness(), 3.25f / 4.0f);
    }

    /** Looks for days after which the order of the sum tells in the last bit. */
    private static void sumInOrder() {
        Sentence mean = new Sentence(42, MEAN_FRESHNESS);
        boolean orderTells = false;
        for (int days = 1; days <= 30; days++) {
            StoneGazette gazette = Check.with("a");
            for (int issue = 0; issue < 3; issue++) {
                gazette.print();
                gazette.passDays(days);
            }
            float oldest = gazette.freshness(0);
            float middle = gazette.freshness(1);
            float latest = gazette.freshness(2);
            orderTells |= oldest + middle + latest != latest + middle + oldest;
            mean.same("three, " + days + " days apart", gazette.meanFreshness(), (oldest + middle + latest) / 3.0f);
        }
        mean.same("the order tells", orderTells, true);
    }

    private static void writing() {
        Sentence.noSuchArticle(43, StoneGazette::writeArticle);
        Sentence writes = new Sentence(43, WRITES);
        Sentence returns = new Sentence(43, "Returns the length of the output.");
        Sentence example = new Sentence(43, "Example: \"2!7:moss grows\".");
        StoneGazette gazette = new StoneGazette();
        Check.add(gazette, 1, "a");
        Check.add(gazette, 9, "a b " + TWELVE);
        Check.add(gazette, 7, "moss grows");
        returns.same("the example", gazette.writeArticle(2), 14);
        example.same("written", Check.output(gazette, 14), "2!7:moss grows");
        returns.same("the least", gazette.writeArticle(0), 5);
        writes.same("least priority, one word", Check.output(gazette, 5), "0!1:a");
        writes.same("greatest priority", Check.written(gazette, 1), "1!9:a b " + TWELVE);
        gazette.writeLine(2, 0);
        writes.same("after a line", Check.written(gazette, 0), "0!1:a");
        Check.outcome(() -> gazette.writeArticle(3));
        writes.same("not after a refused call", Check.output(gazette, 5), "0!1:a");
    }

    private static void idsOfMoreDigits() {
        Sentence writes = new Sentence(43, WRITES);
        StoneGazette gazette = new StoneGazette();
        for (int id = 0; id <= 100; id++) {
            Check.add(gazette, 5, "a");
            if (id == 10 || id == 100) {
                writes.same("id " + id, Check.written(gazette, id), id + "!5:a");
            }
            gazette.removeArticle(id);
        }
        Sentence returns = new Sentence(43, "Returns the length of the output.");
        StoneGazette largest = Check.with("a b c d e f g h i j k l m n o p q r s t u v w x y z a b c d");
        for (int word = 0; word < 30; word++) {
            Check.correct(largest, 0, word, TWELVE);
        }
        returns.same("as long as it can be with id 0", largest.writeArticle(0), 4 + 30 * 12 + 29);
        returns.same("its last character", largest.outputCharacter(4 + 30 * 12 + 28), 'l');
        returns.fails("and none behind it", Check.BOUNDS, () -> largest.outputCharacter(4 + 30 * 12 + 29));
    }

    private static void outputCharacters() {
        Sentence none = new Sentence(44, "Throws `IndexOutOfBoundsException` if there is no such character");
        Sentence first = new Sentence(44, "Returns a character of the output, which is empty at first.");
        Sentence from = new Sentence(44, "`index`: the index of the character, from 0");
        StoneGazette gazette = Check.with("moss tomato", "a");
        first.fails("nothing written", Check.BOUNDS, () -> gazette.outputCharacter(0));
        gazette.setWidth(7);
        gazette.writeArticle(0);
        from.same("0", gazette.outputCharacter(0), '0');
        from.same("14, the last one", gazette.outputCharacter(14), 'o');
        none.fails("15", Check.BOUNDS, () -> gazette.outputCharacter(15));
        for (int far : new int[] {-1, Integer.MIN_VALUE, Integer.MAX_VALUE}) {
            none.fails("index " + far, Check.BOUNDS, () -> gazette.outputCharacter(far));
        }
        gazette.writeArticle(1);
        none.fails("one of a longer output before", Check.BOUNDS, () -> gazette.outputCharacter(5));
        first.same("the last of a shorter output", gazette.outputCharacter(4), 'a');
        gazette.removeArticle(1);
        first.same("the article was removed", gazette.outputCharacter(4), 'a');
        gazette.setWidth(4);
        gazette.writeLine(0, 1);
        first.same("a hyphen", gazette.outputCharacter(2), '-');
    }

    private static void consistency() {
        Sentence checks = new Sentence(45, "Checks by second methods whether the newspaper is consistent: for all articles that can "
            + "be set, no line has more characters than the column width says; and leastBadness and leastBadnessForward agree for all "
            + "articles without a word that is longer than the column width.");
        checks.same("no articles", new StoneGazette().isConsistent(), true);
        StoneGazette gazette = Check.with("a", "rhythm", "abcd abcd", "tomato", "bababababebo a", "aaa bb cc ddddd");
        for (int width = 4; width <= 20; width++) {
            gazette.setWidth(width);
            checks.same("six articles in " + width, gazette.isConsistent(), true);
        }
        Sentence returns = new Sentence(45, "Returns true if it is consistent.");
        gazette.setWidth(4);
        returns.same("an article that cannot be set", gazette.isConsistent(), true);
        returns.same("the width stays", gazette.width(), 4);
        returns.same("it is no change", gazette.undoCount(), 8);
    }
}
