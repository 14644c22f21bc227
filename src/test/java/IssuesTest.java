/** Promises 26 to 40: pages, issues and fading. */
final class IssuesTest {
    private IssuesTest() {
    }

    public static void main(String[] args) {
        pages();
        printing();
        leavingOut();
        places();
        keptIssues();
        unknownIssues();
        printedIssuesStay();
        days();
        fading();
        becomingUnreadable();
        Check.end();
    }

    private static void pages() {
        StoneGazette gazette = new StoneGazette();
        for (int columns = 1; columns <= 4; columns++) {
            for (int height = 1; height <= 20; height++) {
                Check.same("26 lines", gazette.setPage(columns, height), columns * height);
            }
        }
        Check.same("26 are changes", gazette.undoCount(), 8);
        int[][] wrong = {{0, 8}, {5, 8}, {2, 0}, {2, 21}, {-1, 8}, {2, -1}, {0, 0}, {Integer.MAX_VALUE, 1},
            {1, Integer.MAX_VALUE}, {Integer.MIN_VALUE, Integer.MIN_VALUE}};
        for (int[] page : wrong) {
            Check.fails("26 " + page[0] + "*" + page[1], Check.ARGUMENT, () -> gazette.setPage(page[0], page[1]));
        }
        Check.add(gazette, 1, "moss");
        gazette.print();
        Check.same("26 stays 4*20", gazette.coverage(0), 1.0f / 80.0f);
    }

    private static void printing() {
        StoneGazette gazette = new StoneGazette();
        Check.fails("27 no articles", Check.STATE, gazette::print);
        Check.same("27 no change", gazette.undoCount(), 0);
        Check.add(gazette, 1, "moss");
        Check.same("27 first number", gazette.print(), 0);
        Check.same("27 second number", gazette.print(), 1);
        Check.same("27 are changes", gazette.undoCount(), 3);
        Check.same("28 two", gazette.issueCount(), 2);
        Check.same("30 one article", gazette.articlesIn(1), 1);
        Check.same("31 one line", gazette.linesIn(1), 1);
        gazette.removeArticle(0);
        Check.fails("27 none left", Check.STATE, gazette::print);
        Check.same("28 issues stay", gazette.issueCount(), 2);
    }

    private static void leavingOut() {
        StoneGazette gazette = new StoneGazette();
        gazette.setWidth(4);
        gazette.setPage(1, 4);
        Check.add(gazette, 5, "rhythm");
        Check.add(gazette, 4, "abcd abcd abcd");
        Check.add(gazette, 3, "abcd abcd");
        Check.add(gazette, 3, "ab");
        Check.add(gazette, 2, "cd");
        gazette.print();
        Check.same("30 two articles", gazette.articlesIn(0), 2);
        Check.same("31 four lines", gazette.linesIn(0), 4);
        Check.fails("32 cannot be set", Check.NO_ELEMENT, () -> gazette.columnOf(0, 0));
        Check.same("33 first", gazette.rowOf(0, 1), 0);
        Check.fails("33 does not fit", Check.NO_ELEMENT, () -> gazette.rowOf(0, 2));
        Check.same("33 fits into the last line", gazette.rowOf(0, 3), 3);
        Check.fails("33 page is full", Check.NO_ELEMENT, () -> gazette.rowOf(0, 4));
        Check.same("34 full", gazette.coverage(0), 1.0f);
        gazette.setPage(1, 1);
        gazette.removeArticle(3);
        gazette.removeArticle(4);
        Check.same("27 empty issue", gazette.print(), 1);
        Check.same("30 no article", gazette.articlesIn(1), 0);
        Check.same("31 no line", gazette.linesIn(1), 0);
        Check.same("34 nothing", gazette.coverage(1), 0.0f);
    }

    private static void places() {
        StoneGazette gazette = new StoneGazette();
        gazette.setWidth(4);
        gazette.setPage(3, 2);
        Check.add(gazette, 1, "abcd");
        Check.add(gazette, 9, "abcd abcd abcd");
        Check.add(gazette, 1, "ab");
        Check.add(gazette, 5, "cd");
        gazette.print();
        int[][] due = {{2, 0}, {0, 0}, {2, 1}, {1, 1}};
        for (int id = 0; id < 4; id++) {
            Check.same("32 column of " + id, gazette.columnOf(0, id), due[id][0]);
            Check.same("33 row of " + id, gazette.rowOf(0, id), due[id][1]);
        }
        Check.same("34 full", gazette.coverage(0), 1.0f);
        gazette.setPage(3, 7);
        gazette.print();
        Check.same("34 in floats", gazette.coverage(1), (float) 6 / (float) 21);
        Check.same("32 lower page", gazette.columnOf(1, 2), 0);
        Check.same("33 lower page", gazette.rowOf(1, 2), 5);
        for (int outside : new int[] {-1, 4, Integer.MAX_VALUE, Integer.MIN_VALUE}) {
            Check.fails("32 article " + outside, Check.NO_ELEMENT, () -> gazette.columnOf(0, outside));
            Check.fails("33 article " + outside, Check.NO_ELEMENT, () -> gazette.rowOf(0, outside));
        }
    }

    private static void keptIssues() {
        StoneGazette gazette = new StoneGazette();
        Check.add(gazette, 1, "moss");
        for (int number = 0; number < 9; number++) {
            Check.same("27 number", gazette.print(), number);
            Check.same("28 at most four", gazette.issueCount(), Math.min(4, number + 1));
            for (int issue = -2; issue < 12; issue++) {
                Check.same("29 " + issue, gazette.isKept(issue), issue >= 0 && issue <= number && issue > number - 4);
            }
        }
        Check.same("29 far", gazette.isKept(Integer.MAX_VALUE), false);
        Check.same("29 far below", gazette.isKept(Integer.MIN_VALUE), false);
    }

    private static void unknownIssues() {
        StoneGazette gazette = new StoneGazette();
        Check.add(gazette, 1, "moss");
        for (int i = 0; i < 5; i++) {
            gazette.print();
        }
        for (int issue : new int[] {-1, 0, 5, Integer.MAX_VALUE, Integer.MIN_VALUE}) {
            Check.fails("30 " + issue, Check.NO_ELEMENT, () -> gazette.articlesIn(issue));
            Check.fails("31 " + issue, Check.NO_ELEMENT, () -> gazette.linesIn(issue));
            Check.fails("32 " + issue, Check.NO_ELEMENT, () -> gazette.columnOf(issue, 0));
            Check.fails("33 " + issue, Check.NO_ELEMENT, () -> gazette.rowOf(issue, 0));
            Check.fails("34 " + issue, Check.NO_ELEMENT, () -> gazette.coverage(issue));
            Check.fails("37 " + issue, Check.NO_ELEMENT, () -> gazette.freshness(issue));
            Check.fails("38 " + issue, Check.NO_ELEMENT, () -> gazette.freshnessBits(issue));
            Check.fails("39 " + issue, Check.NO_ELEMENT, () -> gazette.isReadable(issue));
            Check.fails("40 " + issue, Check.NO_ELEMENT, () -> gazette.daysUntilUnreadable(issue));
        }
        Check.same("30 the oldest kept", gazette.articlesIn(1), 1);
    }

    private static void printedIssuesStay() {
        StoneGazette gazette = new StoneGazette();
        Check.add(gazette, 1, "moss grows on stone");
        Check.add(gazette, 2, "a");
        gazette.print();
        gazette.setWidth(20);
        gazette.setPage(1, 1);
        Check.correct(gazette, 0, 0, "ox");
        gazette.removeArticle(1);
        Check.same("31 lines stay", gazette.linesIn(0), 3);
        Check.same("30 articles stay", gazette.articlesIn(0), 2);
        Check.same("33 rows stay", gazette.rowOf(0, 0), 1);
        Check.same("32 columns stay", gazette.columnOf(0, 0), 0);
        Check.same("34 the page stays", gazette.coverage(0), 3.0f / 16.0f);
    }

    private static void days() {
        StoneGazette gazette = new StoneGazette();
        Check.same("36 at first", gazette.day(), 0);
        Check.same("35 no issues", gazette.passDays(1), 0);
        Check.same("36 one", gazette.day(), 1);
        Check.same("35 thirty", gazette.passDays(30), 0);
        Check.same("36 thirty more", gazette.day(), 31);
        for (int wrong : new int[] {0, 31, -1, Integer.MIN_VALUE, Integer.MAX_VALUE}) {
            Check.fails("35 wrong " + wrong, Check.ARGUMENT, () -> gazette.passDays(wrong));
        }
        Check.same("36 stays", gazette.day(), 31);
        Check.same("35 are changes", gazette.undoCount(), 2);
        gazette.undo();
        Check.same("36 undone", gazette.day(), 1);
    }

    private static void fading() {
        StoneGazette gazette = new StoneGazette();
        Check.add(gazette, 1, "moss");
        gazette.print();
        Check.same("37 new", gazette.freshness(0), 1.0f);
        Check.same("38 new", gazette.freshnessBits(0), Float.floatToIntBits(1.0f));
        Check.same("39 new", gazette.isReadable(0), true);
        Check.same("40 new", gazette.daysUntilUnreadable(0), 5);
        float due = 1.0f;
        for (int day = 1; day <= 40; day++) {
            Check.same("35 day " + day, gazette.passDays(1), day == 5 ? 1 : 0);
            due = due * 0.75f;
            Check.same("37 day " + day, gazette.freshness(0), due);
            Check.same("38 day " + day, gazette.freshnessBits(0), Float.floatToIntBits(due));
            Check.same("39 day " + day, gazette.isReadable(0), day < 5);
            Check.same("40 day " + day, gazette.daysUntilUnreadable(0), Math.max(0, 5 - day));
        }
        Check.same("40 lets no day pass", gazette.day(), 40);
    }

    private static void becomingUnreadable() {
        StoneGazette gazette = new StoneGazette();
        Check.add(gazette, 1, "moss");
        gazette.print();
        gazette.passDays(2);
        gazette.print();
        gazette.print();
        Check.same("35 the first one", gazette.passDays(3), 1);
        Check.same("39 first", gazette.isReadable(0), false);
        Check.same("39 second", gazette.isReadable(1), true);
        Check.same("40 second", gazette.daysUntilUnreadable(1), 2);
        gazette.print();
        Check.same("35 both, and not the first again", gazette.passDays(2), 2);
        Check.same("35 the last one", gazette.passDays(30), 1);
        Check.same("35 none", gazette.passDays(30), 0);
    }
}
