/** Promises 16 to 25: a test for each sentence that names a boundary case. */
final class LinesEdges {
    private static final String THIRTY_WORDS = "a b c d e f g h i j k l m n o p q r s t u v w x y z a b c d";
    private static final String FIVE_PARTS = "bababababebo";

    private LinesEdges() {
    }

    static void run() {
        widths();
        widthsRefused();
        printedIssues();
        canBeSet();
        counts();
        lengths();
        writtenLines();
        smallestWidths();
        beginnings();
        wholeWords();
        dividedWords();
        noDivision();
        fullLines();
        evenBreaking();
        badnesses();
        leastOfAllWays();
    }

    private static StoneGazette set(int width, String... texts) {
        StoneGazette gazette = Check.with(texts);
        gazette.setWidth(width);
        return gazette;
    }

    private static void setIs(Sentence asked, int width, String text, String due) {
        asked.same("'" + text + "' in " + width, Check.lines(set(width, text), 0), due);
    }

    private static void cannotSet(Sentence asked, int width, String text) {
        asked.same("'" + text + "' in " + width + " can be set", set(width, text).canBeSet(0), false);
    }

    /** The largest article that there can be, whose words all have five parts. */
    private static StoneGazette largest(int width) {
        StoneGazette gazette = set(width, THIRTY_WORDS);
        for (int word = 0; word < 30; word++) {
            Check.correct(gazette, 0, word, FIVE_PARTS);
        }
        return gazette;
    }

    private static void widths() {
        Sentence returns = new Sentence(17, "Returns the column width.");
        Sentence previous = new Sentence(16, "Returns the previous width.");
        Sentence sets = new Sentence(16, "Sets the column width.");
        StoneGazette gazette = new StoneGazette();
        returns.same("never set", gazette.width(), 12);
        previous.same("never set", gazette.setWidth(4), 12);
        sets.same("the least", gazette.width(), 4);
        previous.same("the least", gazette.setWidth(20), 4);
        sets.same("the greatest", gazette.width(), 20);
        previous.same("the same again", gazette.setWidth(20), 20);
        gazette.undo();
        gazette.undo();
        previous.same("after undo", gazette.setWidth(9), 4);
        returns.same("the last one", gazette.width(), 9);
        Check.outcome(() -> gazette.setWidth(21));
        returns.same("after a refused one", gazette.width(), 9);
    }

    private static void widthsRefused() {
        Sentence wrong = new Sentence(16, "Throws `IllegalArgumentException` if width is not from 4 to 20");
        Sentence term = new Sentence(16, "The column width is from 4 to 20 characters, at first 12.");
        StoneGazette gazette = new StoneGazette();
        term.same("at first", gazette.width(), 12);
        for (int width : new int[] {3, 21, 0, -1, -12, 256 + 12, Integer.MIN_VALUE, Integer.MAX_VALUE}) {
            wrong.fails("width " + width, Check.ARGUMENT, () -> gazette.setWidth(width));
        }
        wrong.same("the width stays", gazette.width(), 12);
        wrong.same("changes", gazette.undoCount(), 0);
        for (int width = 4; width <= 20; width++) {
            gazette.setWidth(width);
            term.same("width " + width, gazette.width(), width);
        }
    }

    private static void printedIssues() {
        Sentence asked = new Sentence(16, "Issues that were printed do not change.");
        StoneGazette gazette = set(4, "moss tomato", "a");
        gazette.setPage(1, 4);
        gazette.print();
        gazette.setWidth(20);
        asked.same("lines", gazette.linesIn(0), 4);
        asked.same("row behind them", gazette.rowOf(0, 1), 3);
        asked.same("coverage", gazette.coverage(0), 1.0f);
        gazette.print();
        asked.same("lines of the next issue", gazette.linesIn(1), 2);
    }

    private static void canBeSet() {
        Sentence.noSuchArticle(18, StoneGazette::canBeSet);
        Sentence asked = new Sentence(18, "Returns whether an article can be set.");
        StoneGazette gazette = Check.with("bcdfghjklmnp");
        asked.same("twelve letters in 12", gazette.canBeSet(0), true);
        gazette.setWidth(11);
        asked.same("twelve letters in 11", gazette.canBeSet(0), false);
        asked.same("four letters in 4", set(4, "aaaa").canBeSet(0), true);
        asked.same("five letters in 4", set(4, "aaaaa").canBeSet(0), false);
        asked.same("the last word does not fit", set(4, "a b aaaaa").canBeSet(0), false);
    }

    private static void counts() {
        Sentence.noSuchArticle(19, StoneGazette::lineCount);
        Sentence.cannotBeSet(19, StoneGazette::lineCount);
        Sentence.noSuchArticle(21, StoneGazette::hyphenCount);
        Sentence.cannotBeSet(21, StoneGazette::hyphenCount);
        Sentence lines = new Sentence(19, "Returns the number of lines of an article.");
        lines.same("one letter", set(20, "a").lineCount(0), 1);
        lines.same("a full line", set(4, "ab c").lineCount(0), 1);
        lines.same("one character more", set(4, "ab cd").lineCount(0), 2);
        lines.same("as many as there can be", largest(4).lineCount(0), 150);
        Sentence hyphens = new Sentence(21, "Returns the number of lines of an article that end with a hyphen.");
        hyphens.same("none in one line", set(20, "a").hyphenCount(0), 0);
        hyphens.same("none in more lines", set(4, "abcd abcd").hyphenCount(0), 0);
        hyphens.same("the first line", set(4, "tomato").hyphenCount(0), 1);
        hyphens.same("all but the last line", set(4, FIVE_PARTS).hyphenCount(0), 4);
        hyphens.same("as many as there can be", largest(4).hyphenCount(0), 120);
    }

    private static void lengths() {
        Sentence.noSuchArticle(20, (gazette, article) -> gazette.lineLength(article, 0));
        Sentence.cannotBeSet(20, (gazette, article) -> gazette.lineLength(article, 0));
        Sentence.noSuchLine(20, StoneGazette::lineLength);
        Sentence length = new Sentence(20, "Returns the number of characters of a line.");
        length.same("one letter", set(20, "a").lineLength(0, 0), 1);
        length.same("a full line", set(4, "abcd a").lineLength(0, 0), 4);
        length.same("a full line of 20", set(20, "abcdefghijkl abcdefg a").lineLength(0, 0), 20);
        length.same("with a hyphen", set(5, "tomato").lineLength(0, 0), 5);
        length.same("the blank behind is not in the line", set(4, "abc a").lineLength(0, 0), 3);
        Sentence from = new Sentence(20, "`line`: the number of the line, from 0");
        StoneGazette gazette = set(4, "abcd abc ab a");
        from.same("line 0", gazette.lineLength(0, 0), 4);
        from.same("line 1", gazette.lineLength(0, 1), 3);
        from.same("line 2, the last one", gazette.lineLength(0, 2), 4);
        from.same("the last of 150", largest(4).lineLength(0, 149), 4);
    }

    private static void writtenLines() {
        Sentence.noSuchArticle(22, (gazette, article) -> gazette.writeLine(article, 0));
        Sentence.cannotBeSet(22, (gazette, article) -> gazette.writeLine(article, 0));
        Sentence.noSuchLine(22, StoneGazette::writeLine);
        Sentence replaces = new Sentence(22, "Writes a line as the output, which replaces the previous one.");
        Sentence returns = new Sentence(22, "Returns the length of the output.");
        Sentence from = new Sentence(22, "`line`: the number of the line, from 0");
        StoneGazette gazette = set(5, "ab c tomato z");
        returns.same("line 0", gazette.writeLine(0, 0), 4);
        from.same("line 0", Check.output(gazette, 4), "ab c");
        returns.same("with a hyphen", gazette.writeLine(0, 1), 5);
        replaces.same("a longer one", Check.output(gazette, 5), "toma-");
        returns.same("the last one", gazette.writeLine(0, 2), 4);
        from.same("line 2, the last one", Check.output(gazette, 4), "to z");
        gazette.writeArticle(0);
        replaces.same("after a whole article", gazette.writeLine(0, 2), 4);
        replaces.same("nothing of the article is left", Check.output(gazette, 4), "to z");
        Check.outcome(() -> gazette.writeLine(0, 3));
        Check.outcome(() -> gazette.writeLine(1, 0));
        replaces.same("not after refused calls", Check.output(gazette, 4), "to z");
        from.same("the last of 150", written(largest(4), 149), "bebo");
    }

    private static String written(StoneGazette gazette, int line) {
        return Check.output(gazette, gazette.writeLine(0, line));
    }

    private static void smallestWidths() {
        Sentence.noSuchArticle(23, StoneGazette::smallestWidth);
        Sentence bounds = new Sentence(23, "Returns the width, 4 to 20.");
        bounds.same("one letter would fit into less", Check.with("a").smallestWidth(0), 4);
        bounds.same("four letters", Check.with("rhyt").smallestWidth(0), 4);
        bounds.same("twelve letters, as many as there can be", Check.with("bcdfghjklmnp").smallestWidth(0), 12);
        bounds.same("thirty words", largest(20).smallestWidth(0), 4);
        Sentence smallest = new Sentence(23, "Returns the smallest column width with which an article can be set.");
        smallest.same("five letters", Check.with("rhyth").smallestWidth(0), 5);
        smallest.same("the longest word is the last", Check.with("a rhythm").smallestWidth(0), 6);
        smallest.same("a part with a hyphen", Check.with("bbbbabbbb").smallestWidth(0), 6);
        smallest.same("a rest", Check.with("babbbbbbb").smallestWidth(0), 7);
        StoneGazette narrow = set(4, "rhythm");
        smallest.same("wider than the columns now", narrow.smallestWidth(0), 6);
        smallest.same("the width stays", narrow.width(), 4);
        StoneGazette wide = set(20, "rhythm");
        smallest.same("narrower than the columns now", wide.smallestWidth(0), 6);
    }

    private static void beginnings() {
        Sentence empty = new Sentence(19, "An article is set into lines, word by word, beginning with an empty line.");
        empty.same("lines of one letter", set(4, "a").lineCount(0), 1);
        setIs(empty, 4, "abcd", "abcd");
        setIs(empty, 4, "abcd a", "abcd/a");
        Sentence blank = new Sentence(22, "A word is put at the beginning of an empty line, and behind a blank in any other line.");
        setIs(blank, 4, "a", "a");
        setIs(blank, 4, "a b", "a b");
        setIs(blank, 4, "a b c", "a b/c");
        setIs(blank, 4, "abc d", "abc/d");
        setIs(blank, 5, "abc d", "abc d");
        setIs(blank, 8, "bababa z", "bababa z");
        setIs(blank, 5, "bababa z", "baba-/ba z");
    }

    private static void wholeWords() {
        Sentence asked = new Sentence(21, "If it fits there as a whole, it is put there as a whole.");
        setIs(asked, 6, "tomato", "tomato");
        setIs(asked, 8, "a tomato", "a tomato");
        setIs(asked, 20, "bababa bababa bababa", "bababa bababa bababa");
        setIs(asked, 4, "bababa", "ba-/baba");
        asked.same("hyphens", set(8, "a tomato").hyphenCount(0), 0);
    }

    private static void dividedWords() {
        Sentence asked = new Sentence(22, "Otherwise, if there are divisions at which the first part and a hyphen fit there, "
            + "it is divided at the last one of them: the first part and a hyphen are put there, "
            + "and the rest is put into the next line in the same way; "
            + "the rest can be divided again, at later divisions of the whole word.");
        setIs(asked, 5, "tomato", "toma-/to");
        setIs(asked, 4, "tomato", "to-/mato");
        setIs(asked, 7, "a tomato", "a toma-/to");
        setIs(asked, 6, "a tomato", "a to-/mato");
        setIs(asked, 5, "a tomato", "a to-/mato");
        setIs(asked, 4, "a tomato", "a/to-/mato");
        setIs(asked, 4, FIVE_PARTS, "ba-/ba-/ba-/ba-/bebo");
        setIs(asked, 5, FIVE_PARTS, "baba-/baba-/bebo");
        setIs(asked, 11, FIVE_PARTS, "bababababe-/bo");
        setIs(asked, 4, "bababa a", "ba-/baba/a");
        setIs(asked, 6, "tomatos tomato", "toma-/tos/tomato");
        setIs(asked, 7, "tomatoss tomato", "tomato-/ss to-/mato");
    }

    private static void noDivision() {
        Sentence asked = new Sentence(18, "If there are no such divisions, the word, or the rest, "
            + "is put into the next line in the same way if the line is not empty, "
            + "and the article cannot be set if the line is empty.");
        setIs(asked, 6, "a rhythm", "a/rhythm");
        cannotSet(asked, 5, "a rhythm");
        cannotSet(asked, 5, "rhythm");
        setIs(asked, 4, "ab tomato", "ab/to-/mato");
        setIs(asked, 5, "abc bbob bbobbb", "abc/bbob/bbo-/bbb");
        cannotSet(asked, 4, "babbbbb");
        setIs(asked, 5, "babbbbb", "ba-/bbbbb");
        cannotSet(asked, 4, "a babbbbb");
        cannotSet(asked, 5, "bbbbabbb");
        setIs(asked, 6, "bbbbabbb", "bbbba-/bbb");
    }

    private static void fullLines() {
        Sentence asked = new Sentence(20, "A line fits if it has at most as many characters as the column width says.");
        setIs(asked, 4, "ab c", "ab c");
        setIs(asked, 4, "ab cd", "ab/cd");
        setIs(asked, 4, "bob toto", "bob/toto");
        setIs(asked, 20, "abcdefghijkl abcdefg", "abcdefghijkl abcdefg");
        setIs(asked, 20, "bcdfghjklmnp bcdfghjk", "bcdfghjklmnp/bcdfghjk");
        setIs(asked, 5, "tomato", "toma-/to");
        StoneGazette gazette = largest(20);
        for (int line = 0; line < gazette.lineCount(0); line++) {
            asked.same("line " + line + " in 20", gazette.lineLength(0, line) <= 20, true);
        }
    }

    private static void badnessIs(Sentence asked, Sentence forward, int width, String text, int due) {
        StoneGazette gazette = set(width, text);
        asked.same("'" + text + "' in " + width, gazette.leastBadness(0), due);
        forward.same("'" + text + "' in " + width, gazette.leastBadnessForward(0), due);
    }

    private static void evenBreaking() {
        Sentence.noSuchArticle(24, StoneGazette::leastBadness);
        Sentence.tooLongWord(24, StoneGazette::leastBadness);
        Sentence.noSuchArticle(25, StoneGazette::leastBadnessForward);
        Sentence.tooLongWord(25, StoneGazette::leastBadnessForward);
        String undivided = "When an article is broken evenly, no word is divided.";
        Sentence backward = new Sentence(24, undivided);
        Sentence forward = new Sentence(25, undivided);
        badnessIs(backward, forward, 6, "ab tomato", 16);
        badnessIs(backward, forward, 9, "moss tomato", 25);
        for (Sentence asked : new Sentence[] {backward, forward}) {
            StoneGazette gazette = set(5, "tomato");
            asked.same("it can be set", gazette.canBeSet(0), true);
            asked.fails("but not broken evenly, leastBadness", Check.UNSUPPORTED, () -> gazette.leastBadness(0));
            asked.fails("nor forward", Check.UNSUPPORTED, () -> gazette.leastBadnessForward(0));
        }
    }

    private static void badnesses() {
        String square = "The badness of a line is the square of the number of characters by which it is shorter "
            + "than the column width, and 0 for the last line.";
        Sentence backward = new Sentence(24, square);
        Sentence forward = new Sentence(25, square);
        badnessIs(backward, forward, 20, "a", 0);
        badnessIs(backward, forward, 4, "abcd", 0);
        badnessIs(backward, forward, 4, "abcd a", 0);
        badnessIs(backward, forward, 4, "abc abcd", 1);
        badnessIs(backward, forward, 4, "a abcd", 9);
        badnessIs(backward, forward, 12, "a abcdefghijkl", 121);
        badnessIs(backward, forward, 4, "a abcd abcd", 9);
        badnessIs(backward, forward, 4, "a abcd a abcd", 18);
        for (Sentence asked : new Sentence[] {backward, forward}) {
            StoneGazette gazette = largest(20);
            asked.same("thirty words of twelve in 20", gazette.leastBadness(0), 29 * 64);
            asked.same("thirty words of twelve in 20, forward", gazette.leastBadnessForward(0), 29 * 64);
        }
    }

    private static void leastOfAllWays() {
        String ways = "The least badness of an article is the least sum of the badnesses of its lines, "
            + "of all ways to break it into lines that fit.";
        Sentence backward = new Sentence(24, ways);
        Sentence forward = new Sentence(25, ways);
        badnessIs(backward, forward, 6, "aaa bb cc ddddd", 9 + 1);
        badnessIs(backward, forward, 4, "a b c", 1);
        badnessIs(backward, forward, 4, "a b c d e", 1 + 1);
        badnessIs(backward, forward, 5, "a b cc", 4);
        Sentence first = new Sentence(24,
            "Returns the least badness of an article, computed word by word from the last word to the first one.");
        Sentence last = new Sentence(25,
            "Returns the same as leastBadness, but is computed word by word from the first word to the last one.");
        badnessIs(first, last, 20, "a", 0);
        badnessIs(first, last, 20, "a b c d e f g h i j k", 1);
        badnessIs(first, last, 4, THIRTY_WORDS, 14);
        badnessIs(first, last, 12, THIRTY_WORDS, 4);
    }
}
