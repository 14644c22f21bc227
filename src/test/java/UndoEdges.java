/** Promises 50 to 53, and what the document says of all changes: a test for each sentence that names a boundary case. */
final class UndoEdges {
    private static final String UNCHANGED = "A call that throws an exception changes nothing, unless its description says otherwise.";
    private static final String FIRST = "If several conditions for exceptions hold, the one that is listed first decides.";

    private static final String IS_CHANGE =
        "A successful call of addArticle, removeArticle, correct, setWidth, setPage, print, passDays or execute is a change.";
    private static final String LATEST = "At most the latest 8 changes that are not undone can be undone; "
        + "undoing a change also restores the id and the number that are given next.";

    private UndoEdges() {
    }

    static void run() {
        changes();
        noChanges();
        atMostEight();
        givenNext();
        refusedCalls();
        refusedCommands();
        refusedWhenFull();
        firstCondition();
        firstConditionOfLines();
        notAffected();
        undoing();
        undoRefused();
        counting();
        saving();
        restoring();
        restoredForGood();
    }

    private static void isChange(int promise, StoneGazette gazette, Check.Call call) {
        Sentence asked = new Sentence(promise, IS_CHANGE);
        int before = gazette.undoCount();
        call.run();
        asked.same("it can be undone", gazette.undoCount(), before + 1);
    }

    private static void changes() {
        StoneGazette gazette = new StoneGazette();
        isChange(4, gazette, () -> Check.add(gazette, 1, "a"));
        isChange(6, gazette, () -> Check.correct(gazette, 0, 0, "a"));
        isChange(16, gazette, () -> gazette.setWidth(12));
        isChange(26, gazette, () -> gazette.setPage(2, 8));
        isChange(27, gazette, gazette::print);
        isChange(35, gazette, () -> gazette.passDays(1));
        isChange(47, gazette, () -> Check.execute(gazette, "width 12"));
        isChange(5, gazette, () -> gazette.removeArticle(0));
    }

    private static void noChanges() {
        Sentence asked = new Sentence(51, IS_CHANGE);
        StoneGazette gazette = Check.with("moss");
        gazette.print();
        gazette.type('a');
        gazette.clearText();
        gazette.feed('p');
        gazette.writeArticle(0);
        gazette.writeLine(0, 0);
        gazette.smallestWidth(0);
        gazette.daysUntilUnreadable(0);
        gazette.isConsistent();
        gazette.save();
        asked.same("other calls are none", gazette.undoCount(), 2);
        Check.execute(gazette, "rint;print;print");
        asked.same("three commands are one", gazette.undoCount(), 3);
        gazette.undo();
        asked.same("undo is none", gazette.undoCount(), 2);
    }

    private static void atMostEight() {
        Sentence asked = new Sentence(50, LATEST);
        StoneGazette gazette = new StoneGazette();
        for (int width = 4; width <= 12; width++) {
            gazette.setWidth(width);
        }
        for (int width = 11; width >= 4; width--) {
            asked.same("left", gazette.undo(), width - 4);
            asked.same("width", gazette.width(), width);
        }
        asked.fails("the first of nine", Check.STATE, gazette::undo);
        asked.same("stays", gazette.width(), 4);
        for (int width = 5; width <= 12; width++) {
            gazette.setWidth(width);
        }
        for (int left = 7; left >= 0; left--) {
            asked.same("eight others then", gazette.undo(), left);
        }
        asked.same("the width before them", gazette.width(), 4);
        asked.fails("no more than eight", Check.STATE, gazette::undo);
    }

    private static void givenNext() {
        Sentence asked = new Sentence(50, LATEST);
        StoneGazette gazette = new StoneGazette();
        Check.add(gazette, 1, "a");
        gazette.undo();
        asked.same("the first id again", Check.add(gazette, 1, "b"), 0);
        gazette.removeArticle(0);
        gazette.undo();
        asked.same("not the id of one that is back", Check.add(gazette, 1, "c"), 1);
        gazette.print();
        gazette.undo();
        asked.same("the first number again", gazette.print(), 0);
        Check.execute(gazette, "print;print;drop 1");
        gazette.undo();
        asked.same("the number before execute", gazette.print(), 1);
        asked.same("the id before execute", Check.add(gazette, 1, "d"), 2);
        Check.feed(gazette, "print;drop 9");
        Check.outcome(gazette::execute);
        asked.same("the number before execute failed", gazette.print(), 2);
    }

    /** What calls tell of the current newspaper, its text, command buffer and output, with two issues and two articles. */
    private static String seen(StoneGazette gazette) {
        StringBuilder told = new StringBuilder();
        told.append(gazette.articleCount()).append(' ').append(gazette.issueCount()).append(' ').append(gazette.width());
        told.append(' ').append(gazette.day()).append(' ').append(gazette.lateCorrections()).append(' ').append(gazette.undoCount());
        for (int number = 0; number < 2; number++) {
            int known = number;
            told.append(' ').append(Check.outcome(() -> gazette.wordLength(known, 0)));
            told.append(' ').append(Check.outcome(() -> gazette.coverage(known)));
            told.append(' ').append(Check.outcome(() -> gazette.freshness(known)));
            told.append(' ').append(Check.outcome(() -> gazette.outputCharacter(known)));
        }
        return told.toString();
    }

    private static void changesNothing(int promise, StoneGazette gazette, Class<? extends RuntimeException> due, Check.Call call) {
        Sentence asked = new Sentence(promise, UNCHANGED);
        String before = seen(gazette);
        asked.fails("the call", due, call);
        asked.same("what is seen then", seen(gazette), before);
    }

    /** Two articles, an issue of both, an output, a text that is none of an article, and a command. */
    private static StoneGazette busy() {
        StoneGazette gazette = Check.with("moss", "slate");
        gazette.print();
        gazette.writeArticle(0);
        Check.type(gazette, "a b ");
        Check.feed(gazette, "print");
        return gazette;
    }

    private static void refusedCalls() {
        StoneGazette gazette = busy();
        changesNothing(2, gazette, Check.ARGUMENT, () -> gazette.type('A'));
        changesNothing(4, gazette, Check.ARGUMENT, () -> gazette.addArticle(0));
        changesNothing(4, gazette, Check.UNSUPPORTED, () -> gazette.addArticle(1));
        changesNothing(5, gazette, Check.NO_ELEMENT, () -> gazette.removeArticle(2));
        changesNothing(6, gazette, Check.NO_ELEMENT, () -> gazette.correct(2, 0));
        changesNothing(6, gazette, Check.BOUNDS, () -> gazette.correct(0, 1));
        changesNothing(6, gazette, Check.UNSUPPORTED, () -> gazette.correct(0, 0));
        new Sentence(6, UNCHANGED).same("the text stays", gazette.clearText(), 4);
        new Sentence(4, UNCHANGED).same("the id given next", Check.add(gazette, 1, "a"), 2);
        StoneGazette other = busy();
        changesNothing(16, other, Check.ARGUMENT, () -> other.setWidth(3));
        changesNothing(22, other, Check.BOUNDS, () -> other.writeLine(0, 1));
        changesNothing(26, other, Check.ARGUMENT, () -> other.setPage(1, 21));
        changesNothing(35, other, Check.ARGUMENT, () -> other.passDays(31));
        changesNothing(43, other, Check.NO_ELEMENT, () -> other.writeArticle(2));
        changesNothing(53, other, Check.STATE, other::restore);
        new Sentence(26, UNCHANGED).same("the number given next", other.print(), 1);
        new Sentence(26, UNCHANGED).same("the page", other.coverage(1), 2.0f / 16.0f);
        new Sentence(53, UNCHANGED).same("the command buffer stays", other.execute(), 1);
    }

    private static void refusedCommands() {
        StoneGazette gazette = busy();
        gazette.execute();
        Check.feed(gazette, "width 4;print;print;drop 0;width 3");
        changesNothing(47, gazette, Check.UNSUPPORTED, gazette::execute);
        Check.feed(gazette, "width 4;print;drop 0;x");
        changesNothing(47, gazette, Check.ARGUMENT, gazette::execute);
        new Sentence(47, UNCHANGED).same("but the command buffer is empty then", gazette.feed('x'), 1);
        new Sentence(47, UNCHANGED).same("the text stays", gazette.clearText(), 4);
    }

    private static void refusedWhenFull() {
        StoneGazette gazette = Check.with("a", "b", "c", "d", "e", "f");
        Check.type(gazette, "abcdefghijkl abcdefghijkl abcdefghijkl abcdefghijkl abcdefgh");
        changesNothing(4, gazette, Check.STATE, () -> gazette.addArticle(9));
        changesNothing(2, gazette, Check.STATE, () -> gazette.type('a'));
        new Sentence(2, UNCHANGED).same("the text", gazette.clearText(), 60);
        StoneGazette empty = new StoneGazette();
        changesNothing(27, empty, Check.STATE, empty::print);
        changesNothing(50, empty, Check.STATE, empty::undo);
        Check.add(empty, 1, "a");
        new Sentence(27, UNCHANGED).same("the number given next", empty.print(), 0);
        StoneGazette fed = new StoneGazette();
        Check.feed(fed, "width 4;width 4;width 4;width 4;width 4;width 4;width 4;page");
        changesNothing(46, fed, Check.STATE, () -> fed.feed('x'));
        Check.outcome(fed::execute);
        new Sentence(46, UNCHANGED).same("the command buffer", fed.errorPosition(), 60);
    }

    private static void firstCondition() {
        StoneGazette gazette = Check.with("a", "b", "c", "d", "e", "f");
        Sentence adding = new Sentence(4, FIRST);
        adding.fails("priority, six articles and no text", Check.ARGUMENT, () -> gazette.addArticle(10));
        adding.fails("six articles and no text", Check.STATE, () -> gazette.addArticle(9));
        Sentence correcting = new Sentence(6, FIRST);
        correcting.fails("article, word and text", Check.NO_ELEMENT, () -> gazette.correct(6, 1));
        correcting.fails("word and text", Check.BOUNDS, () -> gazette.correct(0, 1));
        new Sentence(12, FIRST).fails("article and word", Check.NO_ELEMENT, () -> gazette.wordLength(6, 1));
        new Sentence(13, FIRST).fails("article and word", Check.NO_ELEMENT, () -> gazette.divisions(6, 1));
        new Sentence(14, FIRST).fails("article and word", Check.NO_ELEMENT, () -> gazette.canDivide(6, 1, 2));
        for (int i = 0; i < 60; i++) {
            gazette.type(' ');
        }
        new Sentence(2, FIRST).fails("character and full text", Check.ARGUMENT, () -> gazette.type('A'));
        adding.fails("six articles and no article text", Check.STATE, () -> gazette.addArticle(1));
        Sentence executing = new Sentence(47, FIRST);
        Check.feed(gazette, "width 3;x");
        executing.fails("a command fails, a later one is malformed", Check.ARGUMENT, gazette::execute);
        executing.fails("no failed command was kept", Check.NO_ELEMENT, gazette::failedCommand);
    }

    private static void firstConditionOfLines() {
        StoneGazette gazette = Check.with("rhythm", "a");
        gazette.setWidth(4);
        new Sentence(19, FIRST).fails("no article", Check.NO_ELEMENT, () -> gazette.lineCount(2));
        new Sentence(21, FIRST).fails("no article", Check.NO_ELEMENT, () -> gazette.hyphenCount(2));
        new Sentence(24, FIRST).fails("no article", Check.NO_ELEMENT, () -> gazette.leastBadness(2));
        new Sentence(25, FIRST).fails("no article", Check.NO_ELEMENT, () -> gazette.leastBadnessForward(2));
        Sentence length = new Sentence(20, FIRST);
        length.fails("no article and no line", Check.NO_ELEMENT, () -> gazette.lineLength(2, -1));
        length.fails("cannot be set, and no line", Check.UNSUPPORTED, () -> gazette.lineLength(0, -1));
        length.fails("no line", Check.BOUNDS, () -> gazette.lineLength(1, -1));
        Sentence writing = new Sentence(22, FIRST);
        writing.fails("no article and no line", Check.NO_ELEMENT, () -> gazette.writeLine(2, -1));
        writing.fails("cannot be set, and no line", Check.UNSUPPORTED, () -> gazette.writeLine(0, -1));
        writing.fails("no line", Check.BOUNDS, () -> gazette.writeLine(1, -1));
    }

    private static void notAffected() {
        String words = "The text, the command buffer, the output, the error position and the failed command "
            + "are affected neither by undo nor by saving.";
        Sentence undone = new Sentence(50, words);
        Sentence saved = new Sentence(52, words);
        Sentence restored = new Sentence(53, words);
        StoneGazette gazette = Check.with("moss");
        gazette.save();
        Check.outcome(gazette::execute);
        Check.feed(gazette, "drop 9");
        Check.outcome(gazette::execute);
        gazette.setWidth(9);
        gazette.writeArticle(0);
        Check.type(gazette, "ab");
        Check.feed(gazette, "widt");
        gazette.undo();
        undone.same("output", gazette.outputCharacter(7), 's');
        undone.same("text", gazette.type('c'), 3);
        undone.same("command buffer", gazette.feed('h'), 5);
        undone.same("error position", gazette.errorPosition(), 0);
        undone.same("failed command", gazette.failedCommand(), 0);
        gazette.restore();
        restored.same("output", gazette.outputCharacter(7), 's');
        restored.same("text", gazette.type('d'), 4);
        restored.same("command buffer", gazette.feed(' '), 6);
        restored.same("error position", gazette.errorPosition(), 0);
        restored.same("failed command", gazette.failedCommand(), 0);
        gazette.save();
        saved.same("output", gazette.outputCharacter(7), 's');
        saved.same("text", gazette.addArticle(1), 1);
        saved.same("command buffer", Check.execute(gazette, "9"), 1);
        saved.same("the text that was typed", gazette.wordLength(1, 0), 4);
        gazette.undo();
        gazette.undo();
        undone.same("the text of an undone addArticle does not come back", gazette.clearText(), 0);
        undone.same("nor the commands of an undone execute", gazette.feed('x'), 1);
        gazette.restore();
        restored.same("nor the text when saving it came before", gazette.clearText(), 0);
    }

    private static void undoing() {
        Sentence asked = new Sentence(50, "Undoes the latest change that is not undone.");
        StoneGazette gazette = new StoneGazette();
        gazette.setWidth(5);
        gazette.setWidth(6);
        gazette.undo();
        asked.same("the second one", gazette.width(), 5);
        gazette.setWidth(7);
        gazette.undo();
        asked.same("the third one", gazette.width(), 5);
        gazette.undo();
        asked.same("the first one", gazette.width(), 12);
        StoneGazette full = Check.with("moss");
        for (int i = 0; i < 5; i++) {
            full.print();
        }
        full.passDays(5);
        full.undo();
        asked.same("days", full.day(), 0);
        asked.same("freshness", full.freshness(1), 1.0f);
        full.undo();
        asked.same("the issue that was removed", full.isKept(0), true);
        asked.same("the issue that was printed", full.isKept(4), false);
        Sentence returns = new Sentence(50, "Returns the number of changes that can still be undone.");
        for (int left = 4; left >= 0; left--) {
            returns.same("of five", full.undo(), left);
        }
        asked.same("no article is left", full.articleCount(), 0);
        for (int i = 0; i < 9; i++) {
            full.setPage(1, 1);
        }
        returns.same("of eight", full.undo(), 7);
    }

    private static void undoRefused() {
        Sentence asked = new Sentence(50, "Throws `IllegalStateException` if there is none");
        StoneGazette gazette = new StoneGazette();
        asked.fails("a new object", Check.STATE, gazette::undo);
        Check.type(gazette, "a");
        Check.outcome(() -> gazette.setWidth(3));
        asked.fails("no successful change", Check.STATE, gazette::undo);
        gazette.setWidth(4);
        asked.same("one", gazette.undo(), 0);
        asked.fails("it is undone", Check.STATE, gazette::undo);
        gazette.save();
        gazette.setWidth(4);
        gazette.restore();
        asked.fails("after restore", Check.STATE, gazette::undo);
    }

    private static void counting() {
        Sentence count = new Sentence(51, "Returns the number of changes that can be undone.");
        Sentence most = new Sentence(51, "Returns the number of changes, at most 8.");
        StoneGazette gazette = new StoneGazette();
        count.same("none", gazette.undoCount(), 0);
        for (int made = 1; made <= 10; made++) {
            gazette.setWidth(4);
            most.same("made " + made, gazette.undoCount(), Math.min(8, made));
        }
        gazette.undo();
        count.same("one of eight undone", gazette.undoCount(), 7);
        gazette.setWidth(4);
        count.same("eight again", gazette.undoCount(), 8);
        Check.outcome(() -> gazette.setWidth(3));
        count.same("after a refused call", gazette.undoCount(), 8);
        for (int left = 7; left >= 0; left--) {
            gazette.undo();
            count.same("undone", gazette.undoCount(), left);
        }
    }

    private static void saving() {
        Sentence returns = new Sentence(52, "Returns the number of articles.");
        Sentence saves = new Sentence(52, "Saves everything that changes can change, in place of what was saved before.");
        StoneGazette gazette = new StoneGazette();
        returns.same("none", gazette.save(), 0);
        for (int count = 1; count <= 6; count++) {
            Check.add(gazette, 1, "moss");
            returns.same("articles", gazette.save(), count);
        }
        gazette.print();
        Check.correct(gazette, 0, 0, "a");
        gazette.passDays(5);
        gazette.setWidth(4);
        gazette.setPage(1, 20);
        gazette.save();
        returns.same("it is no change", gazette.undoCount(), 8);
        Check.execute(gazette, "width 20;page 1*1;print;days 1;drop 0;drop 1");
        Check.correct(gazette, 2, 0, "ox");
        gazette.restore();
        saves.same("articles", gazette.articleCount(), 6);
        saves.same("words", gazette.wordLength(0, 0), 1);
        saves.same("issues", gazette.issueCount(), 1);
        saves.same("freshness", gazette.isReadable(0), false);
        saves.same("day", gazette.day(), 5);
        saves.same("late corrections", gazette.lateCorrections(), 1);
        saves.same("width", gazette.width(), 4);
        saves.same("number given next", gazette.print(), 1);
        saves.same("page", gazette.coverage(1), 6.0f / 20.0f);
        gazette.removeArticle(5);
        saves.same("id given next", Check.add(gazette, 1, "a"), 6);
    }

    private static void restoring() {
        Sentence none = new Sentence(53, "Throws `IllegalStateException` if nothing was saved");
        Sentence returns = new Sentence(53, "Returns the number of articles.");
        StoneGazette gazette = new StoneGazette();
        none.fails("a new object", Check.STATE, gazette::restore);
        Check.add(gazette, 1, "a");
        none.fails("a change is not saved", Check.STATE, gazette::restore);
        gazette.undo();
        none.same("an empty newspaper", gazette.save(), 0);
        Check.add(gazette, 1, "a");
        returns.same("none", gazette.restore(), 0);
        for (int id = 0; id < 6; id++) {
            Check.add(gazette, 1, "a");
        }
        gazette.save();
        gazette.removeArticle(0);
        returns.same("six", gazette.restore(), 6);
        returns.same("six, nothing changed since", gazette.restore(), 6);
    }

    private static void restoredForGood() {
        Sentence last = new Sentence(53, "Restores what was saved last, which stays saved.");
        StoneGazette gazette = new StoneGazette();
        gazette.setWidth(5);
        gazette.save();
        gazette.setWidth(6);
        gazette.save();
        gazette.setWidth(7);
        for (int times = 0; times < 3; times++) {
            gazette.restore();
            last.same("the width saved last", gazette.width(), 6);
            gazette.setWidth(8);
            gazette.passDays(1);
        }
        gazette.undo();
        gazette.undo();
        last.same("undo reaches back to it", gazette.width(), 6);
        gazette.restore();
        last.same("what was undone since leaves it", gazette.width() + gazette.day(), 6);
        Sentence afterwards = new Sentence(53, "Afterwards no change can be undone.");
        gazette.setWidth(9);
        gazette.restore();
        afterwards.same("the count", gazette.undoCount(), 0);
        afterwards.fails("undo", Check.STATE, gazette::undo);
        gazette.setWidth(10);
        afterwards.same("a later change can", gazette.undo(), 0);
        afterwards.same("the width", gazette.width(), 6);
    }
}
