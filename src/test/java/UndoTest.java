/** Promises 50 to 53: undo and saved state. */
final class UndoTest {
    private UndoTest() {
    }

    public static void main(String[] args) {
        nothingToUndo();
        eachChange();
        atMostEight();
        numbersGivenNext();
        notAffected();
        refusedCalls();
        saving();
        savedStaysSaved();
        Check.end();
    }

    /** All that changes can change, as far as calls tell. */
    private static String seen(StoneGazette gazette) {
        StringBuilder told = new StringBuilder();
        told.append(gazette.width()).append(' ').append(gazette.day()).append(' ').append(gazette.lateCorrections());
        for (int i = 0; i < gazette.articleCount(); i++) {
            told.append('\n').append(Check.written(gazette, gazette.article(i)));
        }
        for (int number = 0; number < 20; number++) {
            int issue = number;
            if (!gazette.isKept(issue)) {
                continue;
            }
            told.append('\n').append(issue).append(' ').append(gazette.linesIn(issue)).append(' ').append(gazette.coverage(issue));
            told.append(' ').append(gazette.freshnessBits(issue));
            for (int id = 0; id < 20; id++) {
                int article = id;
                told.append(' ').append(Check.outcome(() -> gazette.columnOf(issue, article)));
                told.append(' ').append(Check.outcome(() -> gazette.rowOf(issue, article)));
            }
        }
        return told.toString();
    }

    private static void nothingToUndo() {
        StoneGazette gazette = new StoneGazette();
        Check.fails("50 none", Check.STATE, gazette::undo);
        Check.same("51 none", gazette.undoCount(), 0);
        gazette.setWidth(12);
        Check.same("51 the same width is a change", gazette.undoCount(), 1);
        Check.same("50 undone", gazette.undo(), 0);
        Check.fails("50 none left", Check.STATE, gazette::undo);
    }

    /** A newspaper on which as many of eight changes were made, each of another kind. */
    private static StoneGazette changed(int count) {
        StoneGazette gazette = new StoneGazette();
        Check.Call[] changes = {
            () -> Check.add(gazette, 3, "moss grows on stone"), gazette::print, () -> Check.correct(gazette, 0, 1, "is"),
            () -> gazette.setWidth(8), () -> gazette.setPage(1, 20), () -> gazette.passDays(3),
            () -> Check.execute(gazette, "print;days 4;width 9"), () -> gazette.removeArticle(0),
        };
        for (int i = 0; i < count; i++) {
            changes[i].run();
        }
        return gazette;
    }

    private static void eachChange() {
        for (int kept = 0; kept < 8; kept++) {
            StoneGazette gazette = changed(8);
            for (int left = 7; left >= kept; left--) {
                Check.same("50 left", gazette.undo(), left);
                Check.same("51 left", gazette.undoCount(), left);
            }
            Check.same("50 as before change " + kept, seen(gazette), seen(changed(kept)));
        }
        StoneGazette gazette = changed(5);
        gazette.print();
        Check.same("50 page before undo", gazette.coverage(1), 2.0f / 20.0f);
        gazette.undo();
        gazette.undo();
        gazette.print();
        Check.same("50 page after undo", gazette.coverage(1), 2.0f / 16.0f);
    }

    private static void atMostEight() {
        StoneGazette gazette = new StoneGazette();
        for (int change = 1; change <= 20; change++) {
            gazette.passDays(change);
            Check.same("51 at most 8", gazette.undoCount(), Math.min(8, change));
        }
        int day = 210;
        for (int left = 7; left >= 5; left--) {
            Check.same("50 left", gazette.undo(), left);
            day -= 20 - (7 - left);
            Check.same("50 day", gazette.day(), day);
        }
        gazette.passDays(30);
        Check.same("51 one more", gazette.undoCount(), 6);
        for (int left = 5; left >= 0; left--) {
            Check.same("50 left then", gazette.undo(), left);
        }
        Check.same("50 after twelve changes", gazette.day(), 78);
        Check.fails("50 no more", Check.STATE, gazette::undo);
        Check.same("50 stays", gazette.day(), 78);
    }

    private static void numbersGivenNext() {
        StoneGazette gazette = new StoneGazette();
        Check.add(gazette, 1, "a");
        Check.same("50 id", Check.add(gazette, 1, "b"), 1);
        gazette.undo();
        Check.same("50 the same id", Check.add(gazette, 1, "c"), 1);
        Check.same("50 number", gazette.print(), 0);
        gazette.undo();
        Check.same("50 the same number", gazette.print(), 0);
        gazette.print();
        gazette.print();
        gazette.print();
        gazette.print();
        gazette.undo();
        Check.same("50 the oldest issue is back", gazette.isKept(0), true);
        Check.same("50 the latest is not", gazette.isKept(4), false);
        gazette.save();
        Check.add(gazette, 1, "d");
        gazette.print();
        gazette.restore();
        Check.same("53 id", Check.add(gazette, 1, "e"), 2);
        Check.same("53 number", gazette.print(), 4);
    }

    private static void notAffected() {
        StoneGazette gazette = new StoneGazette();
        Check.add(gazette, 1, "moss");
        gazette.save();
        gazette.setWidth(9);
        gazette.writeArticle(0);
        Check.type(gazette, "slate");
        Check.feed(gazette, "width 1");
        gazette.undo();
        gazette.undo();
        Check.same("50 the output stays", Check.output(gazette, 8), "0!1:moss");
        Check.same("50 the text stays", gazette.type('s'), 6);
        gazette.restore();
        Check.same("53 the output stays", Check.output(gazette, 8), "0!1:moss");
        Check.same("53 the text stays", gazette.type('s'), 7);
        Check.same("53 the command buffer stays", gazette.feed('5'), 8);
        gazette.execute();
        Check.same("53 and is carried out", gazette.width(), 15);
        gazette.addArticle(2);
        gazette.undo();
        Check.same("50 the text does not come back", gazette.clearText(), 0);
    }

    private static void refusedCalls() {
        StoneGazette gazette = new StoneGazette();
        Check.add(gazette, 1, "moss");
        for (int width = 4; width < 15; width++) {
            gazette.setWidth(width);
        }
        gazette.undo();
        String before = seen(gazette);
        Check.outcome(() -> gazette.addArticle(1));
        Check.outcome(() -> gazette.removeArticle(1));
        Check.outcome(() -> gazette.correct(0, 0));
        Check.outcome(() -> gazette.setWidth(3));
        Check.outcome(() -> gazette.setPage(0, 1));
        Check.outcome(() -> gazette.passDays(0));
        Check.outcome(gazette::execute);
        Check.same("51 as many", gazette.undoCount(), 7);
        Check.same("50 nothing changed", seen(gazette), before);
    }

    private static void saving() {
        StoneGazette gazette = new StoneGazette();
        Check.fails("53 nothing", Check.STATE, gazette::restore);
        Check.same("52 none", gazette.save(), 0);
        Check.add(gazette, 3, "moss grows on stone");
        Check.add(gazette, 2, "a");
        gazette.print();
        gazette.passDays(2);
        gazette.setPage(1, 1);
        Check.same("51 save is no change", gazette.undoCount(), 5);
        String before = seen(gazette);
        Check.same("52 two", gazette.save(), 2);
        Check.same("51 save is no change", gazette.undoCount(), 5);
        Check.correct(gazette, 0, 0, "ox");
        gazette.removeArticle(1);
        gazette.setWidth(20);
        gazette.setPage(4, 4);
        gazette.passDays(9);
        gazette.print();
        Check.same("53 two", gazette.restore(), 2);
        Check.same("53 as before", seen(gazette), before);
        Check.same("53 no undo", gazette.undoCount(), 0);
        Check.fails("53 no undo", Check.STATE, gazette::undo);
        gazette.print();
        Check.same("53 the page", gazette.coverage(1), 1.0f);
    }

    private static void savedStaysSaved() {
        StoneGazette gazette = new StoneGazette();
        Check.add(gazette, 3, "moss");
        gazette.save();
        String before = seen(gazette);
        for (int i = 0; i < 3; i++) {
            gazette.passDays(7);
            Check.correct(gazette, 0, 0, "ox");
            Check.same("53 one", gazette.restore(), 1);
            Check.same("53 again as before", seen(gazette), before);
        }
        gazette.setWidth(4);
        gazette.save();
        gazette.undo();
        Check.same("52 undo leaves what is saved", gazette.width(), 12);
        gazette.restore();
        Check.same("53 the later one", gazette.width(), 4);
        gazette.removeArticle(0);
        Check.same("52 none", gazette.save(), 0);
        Check.same("53 none", gazette.restore(), 0);
    }
}
