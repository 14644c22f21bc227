/** Promises 46 to 49: commands. */
final class CommandsTest {
    private CommandsTest() {
    }

    public static void main(String[] args) {
        feeding();
        eachCommand();
        malformed();
        anyCharacters();
        failing();
        allOrNone();
        oneChange();
        keptNumbers();
        Check.end();
    }

    private static void feeding() {
        StoneGazette gazette = new StoneGazette();
        char[] any = {'w', 'A', ' ', 0, 31, 127, 128, 255, 256, 0x2014, 0xd800, 0xffff};
        for (int i = 0; i < 60; i++) {
            Check.same("46 length", gazette.feed(any[i % any.length]), i + 1);
        }
        Check.fails("46 full", Check.STATE, () -> gazette.feed('a'));
        Check.same("46 is no change", gazette.undoCount(), 0);
        Check.fails("47 malformed", Check.ARGUMENT, gazette::execute);
        Check.same("47 empty afterwards", gazette.feed('a'), 1);
    }

    private static void eachCommand() {
        StoneGazette gazette = new StoneGazette();
        Check.add(gazette, 3, "moss");
        Check.add(gazette, 4, "a");
        Check.same("47 width", Check.execute(gazette, "width 7"), 1);
        Check.same("47 width 7", gazette.width(), 7);
        Check.same("47 width of two digits", Check.execute(gazette, "width 20"), 1);
        Check.same("47 width 20", gazette.width(), 20);
        Check.same("47 leading zero", Check.execute(gazette, "width 04"), 1);
        Check.same("47 width 04", gazette.width(), 4);
        Check.same("47 page and print", Check.execute(gazette, "page 3*10;print"), 2);
        Check.same("47 page 3*10", gazette.coverage(0), 2.0f / 30.0f);
        Check.same("47 zeros", Check.execute(gazette, "page 01*02;print"), 2);
        Check.same("47 page 01*02", gazette.coverage(1), 1.0f);
        Check.same("47 days", Check.execute(gazette, "days 4;days 01"), 2);
        Check.same("47 five days", gazette.day(), 5);
        Check.same("47 faded", gazette.isReadable(1), false);
        Check.same("47 drop", Check.execute(gazette, "drop 0"), 1);
        Check.same("47 dropped", gazette.article(0), 1);
        Check.same("47 empty afterwards", gazette.feed('p'), 1);
        Check.same("47 ten", Check.execute(gazette, "rint;print;print;print;print;print;print;print;print;print"), 10);
        Check.same("47 twelve issues", gazette.isKept(11), true);
        Check.fails("48 none kept", Check.NO_ELEMENT, gazette::errorPosition);
        Check.fails("49 none kept", Check.NO_ELEMENT, gazette::failedCommand);
    }

    private static void malformed() {
        Object[][] rows = {
            {"", 0}, {";", 0}, {" ", 0}, {"x", 0}, {"Print", 0}, {" print", 0}, {"p", 1}, {"px", 1}, {"d", 1}, {"dx", 1},
            {"w", 1}, {"wx", 1}, {"print ", 5}, {"printx", 5}, {"print1", 5}, {"prints", 5}, {"prin", 4}, {"prinT", 4},
            {"prage", 2}, {"pa", 2}, {"pag", 3}, {"page", 4}, {"page ", 5}, {"page*", 4}, {"page  1", 5}, {"page 1", 6},
            {"page 12", 7}, {"page 123", 7}, {"page 1*", 7}, {"page 1;", 6}, {"page 1*;", 7}, {"page *1", 5}, {"page 1* 1", 7},
            {"page 1*2*", 8}, {"page 1*23", -1}, {"page 1*234", 9}, {"page 1 *2", 6}, {"page -1", 5},
            {"width", 5}, {"width ", 6}, {"width x", 6}, {"width;", 5}, {"width 5x", 7}, {"width 5 ", 7}, {"width 555", 8},
            {"width 5*", 7}, {"widht 5", 3}, {"widtH 5", 4}, {"width +5", 6}, {"width /", 6}, {"width :", 6},
            {"days", 4}, {"days ", 5}, {"day 5", 3}, {"days 5d", 6}, {"days 100", 7}, {"dayz", 3}, {"daop 1", 2},
            {"drop", 4}, {"drop ", 5}, {"drop a", 5}, {"drays", 2}, {"dropp", 4}, {"drop 1;", 7}, {"drop 1;;", 7},
            {"print;", 6}, {"print;;print", 6}, {"print; print", 6}, {"print,print", 5}, {"print;prunt", 8},
            {"print;print;x", 12}, {"days 31;days", 12}, {"drop 99;q", 8},
            {"print;print;print;print;print;print;print;print;print;print;", 60},
            {"print;print;print;print;print;print;print;print;print;width ", 60},
            {"print;print;print;print;print;print;print;print;print;page 1", 60},
        };
        for (Object[] row : rows) {
            StoneGazette gazette = new StoneGazette();
            Check.add(gazette, 1, "moss");
            Check.feed(gazette, (String) row[0]);
            if (row[1].equals(-1)) {
                Check.fails("47 well-formed '" + row[0] + "'", Check.UNSUPPORTED, gazette::execute);
                Check.fails("48 '" + row[0] + "'", Check.NO_ELEMENT, gazette::errorPosition);
                continue;
            }
            Check.fails("47 '" + row[0] + "'", Check.ARGUMENT, gazette::execute);
            Check.same("48 '" + row[0] + "'", gazette.errorPosition(), row[1]);
            Check.fails("49 '" + row[0] + "'", Check.NO_ELEMENT, gazette::failedCommand);
            Check.same("47 nothing done", gazette.undoCount() * 10 + gazette.issueCount(), 10);
            Check.same("47 empty afterwards", gazette.feed('p'), 1);
        }
    }

    /** Character 0 and characters that look like digits must not be taken for an end or a number. */
    private static void anyCharacters() {
        Object[][] rows = {
            {"print\u0000", 5}, {"\u0000", 0}, {"width \u0000", 6}, {"width 5\u0000", 7}, {"width \u0665", 6},
            {"width \uff15", 6}, {"days 1\u2075", 6}, {"page 1\u00d71", 6}, {"print\uff1b", 5}, {"pr\u0131nt", 2},
            {"width\u00a05", 5},
        };
        for (Object[] row : rows) {
            StoneGazette gazette = new StoneGazette();
            Check.add(gazette, 1, "moss");
            Check.feed(gazette, (String) row[0]);
            Check.fails("47 any '" + row[0] + "'", Check.ARGUMENT, gazette::execute);
            Check.same("48 any '" + row[0] + "'", gazette.errorPosition(), row[1]);
        }
    }

    private static void failing() {
        Object[][] rows = {
            {"width 3", 0}, {"width 21", 0}, {"width 0", 0}, {"width 00", 0}, {"page 0*1", 0}, {"page 5*1", 0}, {"page 1*0", 0},
            {"page 1*21", 0}, {"days 0", 0}, {"days 31", 0}, {"drop 1", 0}, {"drop 99", 0}, {"drop 0;print", 1},
            {"drop 0;drop 0", 1}, {"print;width 5;days 99;drop 9", 2}, {"width 4;page 4*20;days 30;drop 0;print", 4},
        };
        for (Object[] row : rows) {
            StoneGazette gazette = new StoneGazette();
            Check.add(gazette, 1, "moss");
            Check.feed(gazette, (String) row[0]);
            Check.fails("47 '" + row[0] + "'", Check.UNSUPPORTED, gazette::execute);
            Check.same("49 '" + row[0] + "'", gazette.failedCommand(), row[1]);
            Check.fails("48 '" + row[0] + "'", Check.NO_ELEMENT, gazette::errorPosition);
            Check.same("47 empty afterwards", gazette.feed('p'), 1);
        }
    }

    private static void allOrNone() {
        StoneGazette gazette = new StoneGazette();
        Check.add(gazette, 1, "moss");
        gazette.print();
        Check.feed(gazette, "width 4;page 1*1;print;days 5;drop 0;drop 0");
        Check.fails("47 the last one", Check.UNSUPPORTED, gazette::execute);
        Check.same("49 the last one", gazette.failedCommand(), 5);
        Check.same("47 width", gazette.width(), 12);
        Check.same("47 issues", gazette.issueCount(), 1);
        Check.same("47 day", gazette.day(), 0);
        Check.same("47 freshness", gazette.freshness(0), 1.0f);
        Check.same("47 articles", gazette.articleCount(), 1);
        Check.same("47 changes", gazette.undoCount(), 2);
        Check.same("47 number", gazette.print(), 1);
        Check.same("47 page", gazette.coverage(1), 1.0f / 16.0f);
    }

    private static void oneChange() {
        StoneGazette gazette = new StoneGazette();
        Check.add(gazette, 1, "moss");
        Check.execute(gazette, "width 4;page 1*1;print;days 5;drop 0");
        Check.same("47 one change", gazette.undoCount(), 2);
        Check.same("50 undone", gazette.undo(), 1);
        Check.same("50 width", gazette.width(), 12);
        Check.same("50 issues", gazette.issueCount(), 0);
        Check.same("50 day", gazette.day(), 0);
        Check.same("50 articles", gazette.articleCount(), 1);
        // A failing run between full histories must not push the oldest change out.
        for (int width = 4; width < 12; width++) {
            gazette.setWidth(width);
        }
        Check.feed(gazette, "width 20;width 3");
        Check.fails("47 fails", Check.UNSUPPORTED, gazette::execute);
        for (int width = 10; width >= 4; width--) {
            gazette.undo();
            Check.same("50 width back", gazette.width(), width);
        }
        gazette.undo();
        Check.same("50 the oldest one", gazette.width(), 12);
    }

    private static void keptNumbers() {
        StoneGazette gazette = new StoneGazette();
        Check.feed(gazette, "print;x");
        Check.fails("47 malformed", Check.ARGUMENT, gazette::execute);
        Check.feed(gazette, "width 5;print");
        Check.fails("47 fails", Check.UNSUPPORTED, gazette::execute);
        Check.same("48 kept", gazette.errorPosition(), 6);
        Check.same("49 kept", gazette.failedCommand(), 1);
        Check.execute(gazette, "width 5");
        Check.same("48 kept after success", gazette.errorPosition(), 6);
        Check.same("49 kept after success", gazette.failedCommand(), 1);
        gazette.save();
        Check.fails("47 malformed, empty", Check.ARGUMENT, gazette::execute);
        Check.feed(gazette, "width 3");
        Check.fails("47 fails again", Check.UNSUPPORTED, gazette::execute);
        gazette.undo();
        gazette.restore();
        Check.same("48 kept last", gazette.errorPosition(), 0);
        Check.same("49 kept last", gazette.failedCommand(), 0);
    }
}
