/** Promises 26 to 40: a test for each sentence that names a boundary case. */
final class IssuesEdges {
    private static final String NO_ISSUE = "Throws `NoSuchElementException` if there is no such issue";
    private static final String NO_PLACE =
        "Throws `NoSuchElementException` if there is no such issue, or it does not contain this article";
    /** Eight lines in columns of 4. */
    private static final String EIGHT_LINES = "abcd abcd abcd abcd abcd abcd abcd abcd";

    private IssuesEdges() {
    }

    static void run() {
        pages();
        pagesRefused();
        firstPage();
        printing();
        consideredOrder();
        leftOut();
        columnAfterColumn();
        kept();
        unknownIssues();
        articlesAndLines();
        places();
        notContained();
        coverages();
        printedIssues();
        days();
        daysRefused();
        unreadableInTheseDays();
        fading();
        bits();
        readable();
        daysLeft();
    }

    /** A newspaper in columns of 4, so that each word of four letters takes a line. */
    private static StoneGazette narrow(int columns, int height, String... texts) {
        StoneGazette gazette = Check.with(texts);
        gazette.setWidth(4);
        gazette.setPage(columns, height);
        return gazette;
    }

    private static StoneGazette printed(String... texts) {
        StoneGazette gazette = Check.with(texts);
        gazette.print();
        return gazette;
    }

    private static String place(StoneGazette gazette, int issue, int article) {
        return gazette.columnOf(issue, article) + "," + gazette.rowOf(issue, article);
    }

    private static void pages() {
        Sentence returns = new Sentence(26, "Returns the number of lines of a page.");
        StoneGazette gazette = Check.with("moss");
        returns.same("the least page", gazette.setPage(1, 1), 1);
        returns.same("the most columns", gazette.setPage(4, 1), 4);
        returns.same("the greatest height", gazette.setPage(1, 20), 20);
        returns.same("the greatest page", gazette.setPage(4, 20), 80);
        Sentence later = new Sentence(26, "Sets the columns and the height of the pages of later issues.");
        gazette.print();
        gazette.setPage(1, 1);
        later.same("an earlier issue", gazette.coverage(0), 1.0f / 80.0f);
        gazette.print();
        later.same("a later issue", gazette.coverage(1), 1.0f);
        later.same("the earlier issue then", gazette.coverage(0), 1.0f / 80.0f);
    }

    private static void pagesRefused() {
        Sentence asked = new Sentence(26,
            "Throws `IllegalArgumentException` if columns is not from 1 to 4 or height is not from 1 to 20");
        StoneGazette gazette = Check.with("moss");
        int[][] wrong = {{0, 8}, {5, 8}, {-1, 8}, {2, 0}, {2, 21}, {2, -1}, {0, 21}, {-2, -8}, {8, 2},
            {Integer.MIN_VALUE, 1}, {Integer.MAX_VALUE, 1}, {1, Integer.MIN_VALUE}, {1, Integer.MAX_VALUE}, {65536, 65536}};
        for (int[] page : wrong) {
            asked.fails(page[0] + " columns, height " + page[1], Check.ARGUMENT, () -> gazette.setPage(page[0], page[1]));
        }
        gazette.print();
        asked.same("the page stays", gazette.coverage(0), 1.0f / 16.0f);
        for (int[] page : new int[][] {{1, 1}, {4, 1}, {1, 20}, {4, 20}}) {
            asked.works(page[0] + " columns, height " + page[1], () -> gazette.setPage(page[0], page[1]));
        }
    }

    private static void firstPage() {
        Sentence asked = new Sentence(27,
            "A page has from 1 to 4 columns, at first 2, and a height from 1 to 20 lines, at first 8.");
        StoneGazette gazette = Check.with(EIGHT_LINES, EIGHT_LINES, "a");
        gazette.setWidth(4);
        gazette.print();
        asked.same("the second article is in the second column", place(gazette, 0, 1), "1,0");
        asked.same("sixteen lines", gazette.coverage(0), 1.0f);
        asked.same("there is no third column", gazette.articlesIn(0), 2);
        StoneGazette largest = narrow(4, 20, EIGHT_LINES);
        largest.print();
        asked.same("the greatest page", largest.coverage(0), 8.0f / 80.0f);
        StoneGazette least = narrow(1, 1, "abcd", "abcd");
        least.print();
        asked.same("the least page", least.linesIn(0), 1);
    }

    private static void printing() {
        Sentence none = new Sentence(27, "Throws `IllegalStateException` if there are no articles");
        StoneGazette gazette = new StoneGazette();
        none.fails("a new object", Check.STATE, gazette::print);
        none.same("changes", gazette.undoCount(), 0);
        Sentence number = new Sentence(27, "Returns the number of the issue.");
        Check.add(gazette, 5, "rhythm");
        number.same("the first one", gazette.print(), 0);
        number.same("the second one", gazette.print(), 1);
        gazette.setWidth(4);
        none.same("an article that cannot be set is an article", gazette.print(), 2);
        gazette.removeArticle(0);
        none.fails("all articles were removed", Check.STATE, gazette::print);
        Sentence numbers = new Sentence(27, "The numbers of issues are given in ascending order, beginning with 0.");
        Check.add(gazette, 5, "a");
        for (int due = 3; due < 9; due++) {
            numbers.same("after others were removed", gazette.print(), due);
        }
    }

    private static void consideredOrder() {
        Sentence asked = new Sentence(27, "To print an issue, the articles are considered, "
            + "the greatest priority first, and the smallest id first for equal priorities.");
        StoneGazette gazette = new StoneGazette();
        int[] priorities = {1, 9, 5, 9, 1, 8};
        for (int priority : priorities) {
            Check.add(gazette, priority, "a");
        }
        gazette.setPage(1, 6);
        gazette.print();
        int[] rows = {4, 0, 3, 1, 5, 2};
        for (int id = 0; id < 6; id++) {
            asked.same("row of article " + id, gazette.rowOf(0, id), rows[id]);
        }
        gazette.setPage(1, 1);
        gazette.print();
        asked.same("room for one", gazette.rowOf(1, 1), 0);
        StoneGazette equal = Check.with("a", "a", "a");
        equal.removeArticle(0);
        equal.setPage(1, 1);
        equal.print();
        asked.same("the smallest id that is left", equal.rowOf(0, 1), 0);
    }

    private static void leftOut() {
        Sentence asked = new Sentence(30, "An article that cannot be set, or that has more lines than are still free on the page, "
            + "is left out; the others take the next free lines, down the first column, then down the second one, and so on.");
        StoneGazette gazette = narrow(1, 3, "rhythm", "abcd abcd", "abcd abcd", "abcd", "abcd");
        gazette.print();
        asked.fails("cannot be set", Check.NO_ELEMENT, () -> gazette.rowOf(0, 0));
        asked.same("fits", gazette.rowOf(0, 1), 0);
        asked.fails("two lines for the last free one", Check.NO_ELEMENT, () -> gazette.rowOf(0, 2));
        asked.same("one line for the last free one", gazette.rowOf(0, 3), 2);
        asked.fails("no line is free", Check.NO_ELEMENT, () -> gazette.rowOf(0, 4));
        asked.same("articles", gazette.articlesIn(0), 2);
        StoneGazette exact = narrow(2, 4, EIGHT_LINES);
        exact.print();
        asked.same("exactly as many lines as the page", exact.linesIn(0), 8);
        StoneGazette over = narrow(1, 7, EIGHT_LINES);
        over.print();
        asked.same("one line more than the page", over.articlesIn(0), 0);
    }

    private static void columnAfterColumn() {
        Sentence column = new Sentence(32, "Returns the column in which an article begins in an issue.");
        Sentence row = new Sentence(33, "Returns the row in which an article begins in an issue.");
        StoneGazette gazette = narrow(4, 2, "abcd", "abcd abcd", "abcd abcd abcd abcd", "abcd");
        gazette.print();
        String[] due = {"0,0", "0,1", "1,1", "3,1"};
        for (int id = 0; id < 4; id++) {
            column.same("article " + id, gazette.columnOf(0, id), due[id].charAt(0) - '0');
            row.same("article " + id, gazette.rowOf(0, id), due[id].charAt(2) - '0');
        }
        column.same("all lines of the page", gazette.coverage(0), 1.0f);
        StoneGazette flat = narrow(4, 1, "abcd", "abcd", "abcd", "abcd");
        flat.print();
        StoneGazette high = narrow(1, 20, "abcd", "abcd", "abcd", "abcd");
        high.print();
        for (int id = 0; id < 4; id++) {
            column.same("height 1, article " + id, flat.columnOf(0, id), id);
            row.same("height 1, article " + id, flat.rowOf(0, id), 0);
            column.same("one column, article " + id, high.columnOf(0, id), 0);
            row.same("one column, article " + id, high.rowOf(0, id), id);
        }
    }

    private static void kept() {
        Sentence most = new Sentence(29, "At most 4 issues are kept; when another one is printed, the oldest one is removed.");
        Sentence count = new Sentence(28, "Returns the number of issues that are kept.");
        Sentence whether = new Sentence(29, "Returns whether an issue is kept.");
        Sentence returns = new Sentence(29, "Returns true if an issue with this number is kept.");
        Sentence any = new Sentence(29, "`issue`: any number");
        StoneGazette gazette = Check.with("a");
        count.same("none", gazette.issueCount(), 0);
        whether.same("none is kept", gazette.isKept(0), false);
        for (int number = 0; number < 8; number++) {
            gazette.print();
            count.same("printed " + (number + 1), gazette.issueCount(), Math.min(4, number + 1));
            returns.same("the last one", gazette.isKept(number), true);
            returns.same("the next one", gazette.isKept(number + 1), false);
            most.same("the fourth from the end", gazette.isKept(number - 3), number >= 3);
            most.same("the fifth from the end", gazette.isKept(number - 4), false);
        }
        for (int far : new int[] {Integer.MIN_VALUE, -1, 256 + 7, 65536 + 7, Integer.MAX_VALUE}) {
            any.same("issue " + far, gazette.isKept(far), false);
        }
        gazette.undo();
        whether.same("an undone one", gazette.isKept(7), false);
        whether.same("the oldest one, which is back", gazette.isKept(3), true);
        gazette.passDays(30);
        whether.same("one that is not readable any more", gazette.isKept(3), true);
    }

    private static void unknownIssues() {
        Sentence.noSuchIssue(30, NO_ISSUE, StoneGazette::articlesIn);
        Sentence.noSuchIssue(31, NO_ISSUE, StoneGazette::linesIn);
        Sentence.noSuchIssue(32, NO_PLACE, (gazette, issue) -> gazette.columnOf(issue, 0));
        Sentence.noSuchIssue(33, NO_PLACE, (gazette, issue) -> gazette.rowOf(issue, 0));
        Sentence.noSuchIssue(34, NO_ISSUE, StoneGazette::coverage);
        Sentence.noSuchIssue(37, NO_ISSUE, StoneGazette::freshness);
        Sentence.noSuchIssue(38, NO_ISSUE, StoneGazette::freshnessBits);
        Sentence.noSuchIssue(39, NO_ISSUE, StoneGazette::isReadable);
        Sentence.noSuchIssue(40, NO_ISSUE, StoneGazette::daysUntilUnreadable);
    }

    private static void articlesAndLines() {
        Sentence articles = new Sentence(30, "Returns the number of articles in an issue.");
        Sentence lines = new Sentence(31, "Returns the number of lines in an issue.");
        Sentence returns = new Sentence(30, "Returns the number of articles.");
        StoneGazette none = narrow(1, 1, "abcd abcd", "abcd abcd");
        none.print();
        returns.same("two in the newspaper, none in the issue", none.articlesIn(0), 0);
        Check.add(none, 1, "abcd");
        none.print();
        articles.same("one of three", none.articlesIn(1), 1);
        lines.same("none", none.linesIn(0), 0);
        StoneGazette six = printed("a", "b", "c", "d", "e", "f");
        articles.same("six", six.articlesIn(0), 6);
        lines.same("six", six.linesIn(0), 6);
        StoneGazette all = narrow(4, 20, "a b c d e f g h i j k l m n o p q r s t u v w x y z a b c d");
        for (int word = 0; word < 12; word++) {
            Check.correct(all, 0, word, "bababababebo");
        }
        for (int word = 12; word < 30; word++) {
            Check.correct(all, 0, word, word < 14 ? "tomato" : "abcd");
        }
        all.print();
        lines.same("eighty", all.linesIn(0), 80);
    }

    private static void places() {
        Sentence column = new Sentence(32, "Returns the column, from 0.");
        Sentence row = new Sentence(33, "Returns the row, from 0 at the top.");
        StoneGazette gazette = narrow(4, 20, EIGHT_LINES, EIGHT_LINES, "abcd abcd abcd abcd", EIGHT_LINES);
        gazette.print();
        column.same("the first article", gazette.columnOf(0, 0), 0);
        row.same("the first article", gazette.rowOf(0, 0), 0);
        column.same("behind twenty lines", gazette.columnOf(0, 3), 1);
        row.same("behind twenty lines", gazette.rowOf(0, 3), 0);
        StoneGazette last = narrow(4, 2, "abcd abcd abcd abcd abcd abcd abcd", "abcd");
        last.print();
        column.same("the last line of the page", last.columnOf(0, 1), 3);
        row.same("the last line of the page", last.rowOf(0, 1), 1);
    }

    private static void notContained() {
        StoneGazette gazette = narrow(1, 1, "abcd", "abcd");
        gazette.print();
        gazette.setPage(1, 2);
        gazette.print();
        Check.add(gazette, 9, "a");
        Sentence column = new Sentence(32, NO_PLACE);
        Sentence row = new Sentence(33, NO_PLACE);
        for (int article : new int[] {1, 2, 3, -1, Integer.MIN_VALUE, Integer.MAX_VALUE}) {
            column.fails("article " + article, Check.NO_ELEMENT, () -> gazette.columnOf(0, article));
            row.fails("article " + article, Check.NO_ELEMENT, () -> gazette.rowOf(0, article));
        }
        column.works("the same article in the next issue", () -> gazette.columnOf(1, 1));
        row.works("the same article in the next issue", () -> gazette.rowOf(1, 1));
        gazette.removeArticle(1);
        column.works("and after it was removed", () -> gazette.columnOf(1, 1));
        row.works("and after it was removed", () -> gazette.rowOf(1, 1));
        column.fails("neither issue nor article", Check.NO_ELEMENT, () -> gazette.columnOf(2, 9));
        row.fails("neither issue nor article", Check.NO_ELEMENT, () -> gazette.rowOf(2, 9));
    }

    private static void coverages() {
        Sentence asked = new Sentence(34, "Returns the coverage of an issue: its number of lines divided by the number of lines "
            + "of its page, both converted to float.");
        StoneGazette none = narrow(1, 1, "abcd abcd");
        none.print();
        asked.same("no lines", none.coverage(0), 0.0f);
        StoneGazette full = narrow(1, 1, "abcd");
        full.print();
        asked.same("all lines", full.coverage(0), 1.0f);
        StoneGazette gazette = Check.with("a");
        for (int columns = 1; columns <= 4; columns++) {
            for (int height = 1; height <= 20; height++) {
                gazette.setPage(columns, height);
                int issue = gazette.print();
                asked.same("one of " + columns * height, gazette.coverage(issue), 1.0f / (float) (columns * height));
            }
        }
        StoneGazette third = narrow(3, 4, EIGHT_LINES);
        third.print();
        asked.same("eight of twelve", third.coverage(0), 8.0f / 12.0f);
    }

    private static void printedIssues() {
        Sentence asked = new Sentence(31, "Issues that were printed do not change.");
        StoneGazette gazette = narrow(2, 2, "abcd abcd", "abcd");
        gazette.print();
        Check.correct(gazette, 0, 0, "bababababebo");
        gazette.removeArticle(1);
        gazette.setWidth(20);
        gazette.setPage(1, 1);
        Check.add(gazette, 9, "a");
        gazette.print();
        asked.same("articles", gazette.articlesIn(0), 2);
        asked.same("lines", gazette.linesIn(0), 3);
        asked.same("place of a corrected article", place(gazette, 0, 0), "0,0");
        asked.same("place of a removed article", place(gazette, 0, 1), "1,0");
        asked.same("coverage", gazette.coverage(0), 3.0f / 4.0f);
        asked.fails("an article that was added", Check.NO_ELEMENT, () -> gazette.rowOf(0, 2));
    }

    private static void days() {
        Sentence asked = new Sentence(36, "Returns the number of days that have passed.");
        StoneGazette gazette = new StoneGazette();
        asked.same("none", gazette.day(), 0);
        gazette.passDays(1);
        asked.same("one", gazette.day(), 1);
        gazette.passDays(30);
        asked.same("thirty more", gazette.day(), 31);
        Check.outcome(() -> gazette.passDays(31));
        asked.same("after a refused call", gazette.day(), 31);
        gazette.undo();
        gazette.undo();
        asked.same("undone", gazette.day(), 0);
    }

    private static void daysRefused() {
        Sentence asked = new Sentence(35, "Throws `IllegalArgumentException` if days is not from 1 to 30");
        StoneGazette gazette = printed("a");
        for (int days : new int[] {0, 31, -1, -30, 256 + 1, Integer.MIN_VALUE, Integer.MAX_VALUE}) {
            asked.fails(days + " days", Check.ARGUMENT, () -> gazette.passDays(days));
        }
        asked.same("the freshness stays", gazette.freshness(0), 1.0f);
        asked.same("1 day", gazette.passDays(1), 0);
        asked.same("30 days", gazette.passDays(30), 1);
    }

    private static void unreadableInTheseDays() {
        Sentence asked = new Sentence(35, "Returns the number of kept issues that become unreadable in these days.");
        asked.same("no issue", new StoneGazette().passDays(30), 0);
        StoneGazette gazette = printed("a");
        asked.same("four days", gazette.passDays(4), 0);
        asked.same("the fifth day", gazette.passDays(1), 1);
        asked.same("not again", gazette.passDays(30), 0);
        gazette.undo();
        gazette.undo();
        asked.same("the fifth day, undone before", gazette.passDays(2), 1);
        StoneGazette four = printed("a");
        four.print();
        four.print();
        four.print();
        asked.same("all four", four.passDays(5), 4);
        StoneGazette five = printed("a");
        for (int i = 0; i < 4; i++) {
            five.print();
        }
        asked.same("not the one that is not kept", five.passDays(30), 4);
        StoneGazette apart = printed("a");
        apart.passDays(4);
        apart.print();
        asked.same("the older one", apart.passDays(4), 1);
        asked.same("the younger one", apart.passDays(1), 1);
    }

    /** What is left of 1.0f after some days, worked out in floats. */
    private static float faded(int days) {
        float left = 1.0f;
        for (int day = 0; day < days; day++) {
            left = left * 0.75f;
        }
        return left;
    }

    private static void fading() {
        Sentence first = new Sentence(37, "The freshness of an issue is 1.0f when it is printed.");
        Sentence returns = new Sentence(37, "Returns the freshness of an issue.");
        StoneGazette gazette = printed("a");
        first.same("on day 0", gazette.freshness(0), 1.0f);
        gazette.passDays(30);
        gazette.print();
        first.same("on day 30", gazette.freshness(1), 1.0f);
        gazette.passDays(1);
        returns.same("the older one of two", gazette.freshness(0), faded(31));
        returns.same("the younger one of two", gazette.freshness(1), 0.75f);
        Sentence daily = new Sentence(37, "On each day, it is multiplied by 0.75f, in float arithmetic.");
        double inDoubles = 1.0;
        boolean roundingTells = false;
        StoneGazette single = printed("a");
        for (int day = 1; day <= 60; day++) {
            single.passDays(1);
            inDoubles = inDoubles * 0.75;
            roundingTells |= faded(day) != (float) inDoubles;
            daily.same("day " + day, single.freshness(0), faded(day));
        }
        daily.same("floats differ from doubles", roundingTells, true);
        StoneGazette thirty = printed("a");
        thirty.passDays(30);
        daily.same("thirty days in one call", thirty.freshness(0), faded(30));
    }

    private static void bits() {
        Sentence asked = new Sentence(38, "Returns the bits of the freshness of an issue, as Float.floatToIntBits returns them.");
        StoneGazette gazette = printed("a");
        asked.same("1.0f", gazette.freshnessBits(0), 0x3f800000);
        gazette.passDays(1);
        asked.same("0.75f", gazette.freshnessBits(0), 0x3f400000);
        // The last normal float, and all that is left for ever, lie in the days from 300 on.
        for (int begin = 0; begin <= 300; begin += 60) {
            StoneGazette fading = printedBefore(begin);
            for (int day = begin + 1; day <= begin + 60; day++) {
                fading.passDays(1);
                asked.same("day " + day, fading.freshnessBits(0), Float.floatToIntBits(faded(day)));
                asked.same("freshness of day " + day, fading.freshness(0), faded(day));
            }
        }
        asked.same("the last normal float was seen", faded(303) >= Float.MIN_NORMAL && faded(304) < Float.MIN_NORMAL, true);
        asked.same("in the end", printedBefore(420).freshnessBits(0), 2);
    }

    private static StoneGazette printedBefore(int days) {
        StoneGazette gazette = printed("a");
        for (int passed = 0; passed < days; passed += 30) {
            gazette.passDays(30);
        }
        return gazette;
    }

    private static void readable() {
        Sentence returns = new Sentence(39, "Returns whether an issue is readable.");
        Sentence least = new Sentence(39, "An issue is readable if its freshness is at least 0.25f.");
        StoneGazette gazette = printed("a");
        returns.same("when it is printed", gazette.isReadable(0), true);
        gazette.passDays(4);
        least.same("0.31640625f", gazette.isReadable(0), true);
        gazette.passDays(1);
        least.same("0.23730469f", gazette.isReadable(0), false);
        gazette.print();
        returns.same("the older one of two", gazette.isReadable(0), false);
        returns.same("the younger one of two", gazette.isReadable(1), true);
        gazette.undo();
        gazette.undo();
        returns.same("undone", gazette.isReadable(0), true);
    }

    private static void daysLeft() {
        Sentence after = new Sentence(40, "Returns the number of days after which an issue is not readable any more.");
        Sentence zero = new Sentence(40, "Returns the number of days, 0 if it is not readable now.");
        StoneGazette gazette = printed("a");
        for (int left = 5; left >= 1; left--) {
            after.same(left + " days before", gazette.daysUntilUnreadable(0), left);
            gazette.passDays(1);
        }
        zero.same("the first such day", gazette.daysUntilUnreadable(0), 0);
        gazette.passDays(30);
        zero.same("much later", gazette.daysUntilUnreadable(0), 0);
        gazette.print();
        after.same("an issue printed later", gazette.daysUntilUnreadable(1), 5);
        after.same("no day passed by asking", gazette.day(), 35);
    }
}
