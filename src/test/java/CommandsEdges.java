/** Promises 46 to 49: a test for each sentence that names a boundary case. */
final class CommandsEdges {
    private static final String NINE_PRINTS = "print;print;print;print;print;print;print;print;print;";

    private CommandsEdges() {
    }

    static void run() {
        feeding();
        fullBuffer();
        allOrNone();
        emptyAfterwards();
        numberOfCommands();
        commandForms();
        otherForms();
        digits();
        errorPositions();
        keywords();
        malformed();
        failing();
        keptErrors();
        keptFailures();
    }

    private static StoneGazette fed(String commands) {
        StoneGazette gazette = Check.with("moss");
        Check.feed(gazette, commands);
        return gazette;
    }

    private static void isMalformed(Sentence asked, String commands, int due) {
        StoneGazette gazette = fed(commands);
        asked.fails("'" + commands + "'", Check.ARGUMENT, gazette::execute);
        asked.same("error position of '" + commands + "'", Check.outcome(gazette::errorPosition), due);
    }

    private static void isExecuted(Sentence asked, String commands, int due) {
        asked.same("'" + commands + "'", Check.outcome(fed(commands)::execute), due);
    }

    private static void isFailing(Sentence asked, String commands, int due) {
        StoneGazette gazette = fed(commands);
        asked.fails("'" + commands + "'", Check.UNSUPPORTED, gazette::execute);
        asked.same("failed command of '" + commands + "'", Check.outcome(gazette::failedCommand), due);
    }

    private static void feeding() {
        Sentence any = new Sentence(46, "`character`: any character");
        StoneGazette gazette = new StoneGazette();
        char[] characters = {0, 1, 31, ' ', 'A', 'z', 127, 128, 255, 256, 0x2014, 0xd800, 0xdfff, 0xfffe, 0xffff};
        for (char character : characters) {
            any.works("character " + (int) character, () -> gazette.feed(character));
        }
        Sentence length = new Sentence(46, "Returns the new length of the command buffer.");
        StoneGazette other = new StoneGazette();
        for (int due = 1; due <= 60; due++) {
            length.same("character " + due, other.feed(due % 2 == 0 ? 'p' : (char) 0), due);
        }
        Check.outcome(other::execute);
        length.same("after execute", other.feed('p'), 1);
    }

    private static void fullBuffer() {
        Sentence full = new Sentence(46, "Throws `IllegalStateException` if the command buffer holds 60 characters");
        Sentence term = new Sentence(47, "The command buffer holds at most 60 characters.");
        StoneGazette gazette = fed(NINE_PRINTS + "days ");
        full.same("the sixtieth", gazette.feed('1'), 60);
        full.fails("the sixty-first", Check.STATE, () -> gazette.feed('x'));
        full.fails("once more", Check.STATE, () -> gazette.feed('0'));
        term.same("sixty characters are executed", gazette.execute(), 10);
        term.same("and no sixty-first", gazette.day(), 1);
        full.same("after execute", gazette.feed('x'), 1);
    }

    private static void allOrNone() {
        Sentence asked = new Sentence(47, "Executes the command buffer, command by command, either all commands or none.");
        StoneGazette gazette = fed("width 4;page 1*1;print;days 5;drop 0");
        asked.same("all", gazette.execute(), 5);
        asked.same("width", gazette.width(), 4);
        asked.same("page", gazette.coverage(0), 1.0f);
        asked.same("freshness", gazette.isReadable(0), false);
        asked.same("articles", gazette.articleCount(), 0);
        asked.same("one change", gazette.undoCount(), 2);
        StoneGazette none = fed("width 4;page 1*1;print;days 5;drop 0;print");
        asked.fails("the last one fails", Check.UNSUPPORTED, none::execute);
        asked.same("width then", none.width(), 12);
        asked.same("issues then", none.issueCount(), 0);
        asked.same("day then", none.day(), 0);
        asked.same("articles then", none.articleCount(), 1);
        asked.same("changes then", none.undoCount(), 1);
        asked.same("number given next", none.print(), 0);
        asked.same("page then", none.coverage(0), 1.0f / 16.0f);
        StoneGazette malformed = fed("width 4;print;x");
        asked.fails("the last one is malformed", Check.ARGUMENT, malformed::execute);
        asked.same("width, malformed", malformed.width(), 12);
        asked.same("issues, malformed", malformed.issueCount(), 0);
    }

    private static void emptyAfterwards() {
        Sentence asked = new Sentence(47, "The command buffer is empty afterwards, also if an exception is thrown.");
        for (String commands : new String[] {"print", "", "x", "print;", "drop 1", "print;width 3", NINE_PRINTS + "days 0"}) {
            StoneGazette gazette = fed(commands);
            Check.outcome(gazette::execute);
            asked.same("after '" + commands + "'", gazette.feed('p'), 1);
        }
        StoneGazette gazette = fed("print;x");
        Check.outcome(gazette::execute);
        asked.same("other commands then", Check.execute(gazette, "print"), 1);
    }

    private static void numberOfCommands() {
        Sentence asked = new Sentence(47, "Returns the number of commands.");
        isExecuted(asked, "print", 1);
        isExecuted(asked, "print;print", 2);
        isExecuted(asked, NINE_PRINTS + "print", 10);
        isExecuted(asked, "drop 0;days 1;days 1;days 1;days 1;days 1;days 1;days 1", 8);
    }

    private static void commandForms() {
        Sentence asked = new Sentence(47, "It contains one or more commands, separated by semicolons: "
            + "\"width \" and a number sets the column width; \"page \", a number, \"*\" and a number sets the columns "
            + "and the height of pages; \"print\" prints an issue;");
        isMalformed(asked, "", 0);
        isMalformed(asked, ";", 0);
        isMalformed(asked, "print;", 6);
        isMalformed(asked, "print;;print", 6);
        isMalformed(asked, "print print", 5);
        isExecuted(asked, "print", 1);
        StoneGazette gazette = fed("width 4;page 4*20;print;width 20;page 1*1;print");
        gazette.execute();
        asked.same("width", gazette.width(), 20);
        asked.same("greatest page", gazette.coverage(0), 1.0f / 80.0f);
        asked.same("least page", gazette.coverage(1), 1.0f);
        isFailing(asked, "width 3", 0);
        isFailing(asked, "width 21", 0);
        isFailing(asked, "page 0*1", 0);
        isFailing(asked, "page 5*1", 0);
        isFailing(asked, "page 1*0", 0);
        isFailing(asked, "page 1*21", 0);
    }

    private static void otherForms() {
        Sentence asked = new Sentence(47, "\"days \" and a number lets days pass; \"drop \" and a number removes an article.");
        StoneGazette gazette = fed("days 1;days 30;drop 0");
        gazette.execute();
        asked.same("days", gazette.day(), 31);
        asked.same("articles", gazette.articleCount(), 0);
        isFailing(asked, "days 0", 0);
        isFailing(asked, "days 31", 0);
        isFailing(asked, "drop 1", 0);
        isFailing(asked, "drop 99", 0);
        StoneGazette many = new StoneGazette();
        for (int id = 0; id < 12; id++) {
            Check.add(many, 5, "a");
            if (id < 11) {
                many.removeArticle(id);
            }
        }
        asked.same("an id of two digits", Check.execute(many, "drop 11"), 1);
        asked.same("no article is left", many.articleCount(), 0);
    }

    private static void digits() {
        Sentence asked = new Sentence(47, "Numbers have one or two digits.");
        isMalformed(asked, "width ", 6);
        isMalformed(asked, "width x", 6);
        isExecuted(asked, "width 4", 1);
        isExecuted(asked, "width 12", 1);
        isExecuted(asked, "width 04", 1);
        isMalformed(asked, "width 004", 8);
        isMalformed(asked, "width 123", 8);
        isMalformed(asked, "width 1 ", 7);
        isMalformed(asked, "page *1", 5);
        isExecuted(asked, "page 01*20", 1);
        isMalformed(asked, "page 001*1", 7);
        isMalformed(asked, "page 1*", 7);
        isMalformed(asked, "page 1*001", 9);
        isMalformed(asked, "days 030", 7);
        isMalformed(asked, "drop 000", 7);
        isExecuted(asked, "drop 00", 1);
        isMalformed(asked, "days -1", 5);
        isMalformed(asked, "days +1", 5);
        isMalformed(asked, "width /", 6);
        isMalformed(asked, "width :", 6);
        isMalformed(asked, "width " + (char) 0x664, 6);
        isMalformed(asked, "width 1" + (char) 0xff12, 7);
    }

    private static void errorPositions() {
        Sentence asked = new Sentence(48, "Their error position is the index of the first character that cannot continue "
            + "well-formed commands, or the length of the buffer if it ends too early.");
        isMalformed(asked, "", 0);
        isMalformed(asked, "x", 0);
        isMalformed(asked, "p", 1);
        isMalformed(asked, "pr", 2);
        isMalformed(asked, "prin", 4);
        isMalformed(asked, "printt", 5);
        isMalformed(asked, "print" + (char) 0, 5);
        isMalformed(asked, "prage 1*1", 2);
        isMalformed(asked, "d", 1);
        isMalformed(asked, "drays 1", 2);
        isMalformed(asked, "dxrop 1", 1);
        isMalformed(asked, "page", 4);
        isMalformed(asked, "page 1", 6);
        isMalformed(asked, "page 11", 7);
        isMalformed(asked, "page 1;print", 6);
        isMalformed(asked, "page 1*1*", 8);
        isMalformed(asked, "days 31;x", 8);
        isMalformed(asked, "drop 9;drop 9;", 14);
        isMalformed(asked, NINE_PRINTS + "width ", 60);
        isMalformed(asked, NINE_PRINTS + "print;", 60);
        isMalformed(asked, NINE_PRINTS + "printx", 59);
        isMalformed(asked, ";" + NINE_PRINTS, 0);
    }

    private static void keywords() {
        Sentence asked = new Sentence(47, "Keywords are compared letter by letter.");
        isMalformed(asked, "Print", 0);
        isMalformed(asked, "prinT", 4);
        isMalformed(asked, "PRINT", 0);
        isMalformed(asked, " print", 0);
        isMalformed(asked, "print ", 5);
        isMalformed(asked, "width4", 5);
        isMalformed(asked, "width  4", 6);
        isMalformed(asked, "Width 4", 0);
        isMalformed(asked, "page1*1", 4);
        isMalformed(asked, "days" + (char) 160 + "1", 4);
        isMalformed(asked, "drop\t1", 4);
        isMalformed(asked, "day 1", 3);
        isMalformed(asked, "dropp 1", 4);
        isMalformed(asked, "pr" + (char) ('i' + 256) + "nt", 2);
    }

    private static void malformed() {
        Sentence form = new Sentence(47, "Commands are malformed if they do not have this form.");
        isMalformed(form, "", 0);
        isMalformed(form, "print,print", 5);
        isMalformed(form, "print; print", 6);
        isMalformed(form, "page 1x1", 6);
        isMalformed(form, "width 4;;width 4", 8);
        Sentence asked = new Sentence(47,
            "Throws `IllegalArgumentException` if the commands are malformed; their error position is kept");
        isMalformed(asked, "print;q", 6);
        isMalformed(asked, "drop 99;q", 8);
        StoneGazette gazette = fed("drop 99;print");
        Check.outcome(gazette::execute);
        asked.fails("well-formed commands that fail keep none", Check.NO_ELEMENT, gazette::errorPosition);
        StoneGazette first = fed("drop 99;q");
        asked.fails("malformed behind a command that would fail", Check.ARGUMENT, first::execute);
        asked.fails("no failed command is kept", Check.NO_ELEMENT, first::failedCommand);
    }

    private static void failing() {
        Sentence asked = new Sentence(47, "Throws `UnsupportedOperationException` if a command throws an exception; "
            + "the index of the command, from 0, is kept as the failed command");
        isFailing(asked, "drop 1", 0);
        isFailing(asked, "drop 0;drop 0", 1);
        isFailing(asked, "drop 0;print", 1);
        isFailing(asked, "print;width 3;days 31", 1);
        isFailing(asked, NINE_PRINTS + "days 0", 9);
        isFailing(asked, "width 00", 0);
        StoneGazette empty = new StoneGazette();
        Check.feed(empty, "print");
        asked.fails("no articles", Check.UNSUPPORTED, empty::execute);
        asked.same("no articles, failed command", empty.failedCommand(), 0);
    }

    private static void keptErrors() {
        Sentence none = new Sentence(48, "Throws `NoSuchElementException` if none was kept");
        Sentence last = new Sentence(48, "Returns the error position that was kept last.");
        StoneGazette gazette = Check.with("moss");
        none.fails("nothing executed", Check.NO_ELEMENT, gazette::errorPosition);
        Check.execute(gazette, "print");
        none.fails("a success", Check.NO_ELEMENT, gazette::errorPosition);
        Check.feed(gazette, "drop 9");
        Check.outcome(gazette::execute);
        none.fails("a failing command", Check.NO_ELEMENT, gazette::errorPosition);
        Check.outcome(gazette::execute);
        last.same("the least", gazette.errorPosition(), 0);
        Check.feed(gazette, NINE_PRINTS + "width ");
        Check.outcome(gazette::execute);
        last.same("the greatest", gazette.errorPosition(), 60);
        Check.execute(gazette, "print");
        last.same("after a success", gazette.errorPosition(), 60);
        Check.feed(gazette, "drop 9");
        Check.outcome(gazette::execute);
        last.same("after a failing command", gazette.errorPosition(), 60);
    }

    private static void keptFailures() {
        Sentence none = new Sentence(49, "Throws `NoSuchElementException` if none was kept");
        Sentence last = new Sentence(49, "Returns the failed command that was kept last.");
        StoneGazette gazette = Check.with("moss");
        none.fails("nothing executed", Check.NO_ELEMENT, gazette::failedCommand);
        Check.execute(gazette, "print");
        none.fails("a success", Check.NO_ELEMENT, gazette::failedCommand);
        Check.outcome(gazette::execute);
        none.fails("malformed commands", Check.NO_ELEMENT, gazette::failedCommand);
        Check.feed(gazette, NINE_PRINTS + "days 0");
        Check.outcome(gazette::execute);
        last.same("the greatest", gazette.failedCommand(), 9);
        Check.execute(gazette, "print");
        last.same("after a success", gazette.failedCommand(), 9);
        Check.feed(gazette, "drop 9;x");
        Check.outcome(gazette::execute);
        last.same("after malformed commands", gazette.failedCommand(), 9);
        Check.feed(gazette, "drop 9");
        Check.outcome(gazette::execute);
        last.same("the least", gazette.failedCommand(), 0);
    }
}
