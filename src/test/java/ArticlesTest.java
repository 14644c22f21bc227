/** Promises 1 to 15: text and articles. */
final class ArticlesTest {
    private ArticlesTest() {
    }

    public static void main(String[] args) {
        newObject();
        typing();
        clearing();
        adding();
        articleTexts();
        removing();
        correcting();
        orders();
        wordsAndPriorities();
        divisions();
        lateCorrections();
        lateForAnyKeptIssue();
        Check.end();
    }

    private static void newObject() {
        StoneGazette gazette = new StoneGazette();
        Check.same("1 articles", gazette.articleCount(), 0);
        Check.same("1 issues", gazette.issueCount(), 0);
        Check.same("1 day", gazette.day(), 0);
        Check.same("1 width", gazette.width(), 12);
        Check.same("1 late", gazette.lateCorrections(), 0);
        Check.same("1 changes", gazette.undoCount(), 0);
        Check.same("1 kept", gazette.isKept(0), false);
        Check.same("1 text", gazette.clearText(), 0);
        Check.same("1 consistent", gazette.isConsistent(), true);
        Check.fails("1 output", Check.BOUNDS, () -> gazette.outputCharacter(0));
        Check.fails("1 error", Check.NO_ELEMENT, gazette::errorPosition);
        Check.fails("1 failed", Check.NO_ELEMENT, gazette::failedCommand);
        Check.fails("1 saved", Check.STATE, gazette::restore);
        StoneGazette other = new StoneGazette();
        Check.add(other, 1, "moss");
        Check.same("1 apart", gazette.articleCount(), 0);
        Check.add(gazette, 5, "moss grows");
        gazette.print();
        Check.same("1 page of 16 lines", gazette.coverage(0), 1.0f / 16.0f);
    }

    private static void typing() {
        StoneGazette gazette = new StoneGazette();
        Check.same("2 a", gazette.type('a'), 1);
        Check.same("2 z", gazette.type('z'), 2);
        Check.same("2 blank", gazette.type(' '), 3);
        char[] wrong = {'a' - 1, 'z' + 1, 'A', '0', '-', '!', '\t', '\n', 0, 31, 33, 160, 228, 0x161, 0x2061, 0xffff};
        for (char character : wrong) {
            Check.fails("2 wrong " + (int) character, Check.ARGUMENT, () -> gazette.type(character));
        }
        for (int length = 4; length <= 60; length++) {
            Check.same("2 length", gazette.type('m'), length);
        }
        Check.fails("2 full", Check.STATE, () -> gazette.type('a'));
        Check.fails("2 full, blank", Check.STATE, () -> gazette.type(' '));
        Check.fails("2 full and wrong", Check.ARGUMENT, () -> gazette.type('A'));
        Check.same("2 still 60", gazette.clearText(), 60);
        Check.same("2 is no change", gazette.undoCount(), 0);
    }

    private static void clearing() {
        StoneGazette gazette = new StoneGazette();
        Check.type(gazette, " moss ");
        Check.same("3 six", gazette.clearText(), 6);
        Check.same("3 none", gazette.clearText(), 0);
        Check.same("3 begins anew", gazette.type('a'), 1);
        gazette.addArticle(1);
        Check.same("3 only the new letter", Check.written(gazette, 0), "0!1:a");
        Check.same("3 is no change", gazette.undoCount(), 1);
    }

    private static void adding() {
        StoneGazette gazette = new StoneGazette();
        Check.same("4 first id", Check.add(gazette, 1, "moss grows"), 0);
        Check.same("4 second id", Check.add(gazette, 9, "a"), 1);
        Check.same("4 text is empty", gazette.clearText(), 0);
        Check.same("4 is a change", gazette.undoCount(), 2);
        Check.same("4 words", Check.written(gazette, 0), "0!1:moss grows");
        Check.fails("4 priority before text", Check.ARGUMENT, () -> gazette.addArticle(0));
        Check.fails("4 no text", Check.UNSUPPORTED, () -> gazette.addArticle(1));
        Check.type(gazette, "stone");
        for (int priority : new int[] {0, 10, -1, Integer.MIN_VALUE, Integer.MAX_VALUE}) {
            Check.fails("4 priority " + priority, Check.ARGUMENT, () -> gazette.addArticle(priority));
        }
        Check.same("4 text stays", gazette.clearText(), 5);
        for (int id = 2; id < 6; id++) {
            Check.same("4 id", Check.add(gazette, 5, "moss"), id);
        }
        Check.fails("4 full before text", Check.STATE, () -> gazette.addArticle(5));
        Check.type(gazette, "moss");
        Check.fails("4 full", Check.STATE, () -> gazette.addArticle(5));
        Check.fails("4 priority before full", Check.ARGUMENT, () -> gazette.addArticle(10));
        Check.same("4 six", gazette.articleCount(), 6);
        Check.same("4 text stays when full", gazette.clearText(), 4);
        gazette.removeArticle(5);
        Check.same("4 no id is given again", Check.add(gazette, 5, "moss"), 6);
        gazette.removeArticle(0);
        Check.same("4 nor a low one", Check.add(gazette, 5, "moss"), 7);
    }

    private static void articleTexts() {
        String twelve = "abcdefghijkl";
        String[] good = {"a", twelve, "a b", twelve + " " + twelve, "a b c d e f g h i j k l m n o p q r s t u v w x y z a b c d"};
        String[] bad = {"", " ", " a", "a ", "a  b", twelve + "m", "a " + twelve + "m", twelve + "m a", "   ",
            "a b c d e f g h i j k l m n o p q r s t u v w x y z a b c d "};
        for (String text : good) {
            StoneGazette gazette = new StoneGazette();
            Check.type(gazette, text);
            Check.same("4 text '" + text + "'", gazette.addArticle(3), 0);
            Check.same("4 written '" + text + "'", Check.written(gazette, 0), "0!3:" + text);
            Check.same("4 words of '" + text + "'", gazette.wordCount(0), text.split(" ").length);
        }
        for (String text : bad) {
            StoneGazette gazette = new StoneGazette();
            Check.type(gazette, text);
            Check.fails("4 text '" + text + "'", Check.UNSUPPORTED, () -> gazette.addArticle(3));
            Check.same("4 text stays '" + text + "'", gazette.clearText(), text.length());
            Check.same("4 no change", gazette.undoCount(), 0);
        }
    }

    private static void removing() {
        StoneGazette gazette = new StoneGazette();
        Check.fails("5 none", Check.NO_ELEMENT, () -> gazette.removeArticle(0));
        Check.add(gazette, 1, "a");
        Check.add(gazette, 2, "b");
        Check.add(gazette, 3, "c");
        gazette.print();
        Check.same("5 remain", gazette.removeArticle(1), 2);
        Check.fails("5 twice", Check.NO_ELEMENT, () -> gazette.removeArticle(1));
        Check.fails("5 negative", Check.NO_ELEMENT, () -> gazette.removeArticle(-1));
        Check.fails("5 never", Check.NO_ELEMENT, () -> gazette.removeArticle(3));
        Check.same("5 the others stay", gazette.article(0) * 10 + gazette.article(1), 2);
        Check.same("5 issues stay", gazette.articlesIn(0), 3);
        Check.same("5 and tell where", gazette.rowOf(0, 1), 1);
        Check.same("5 last but one", gazette.removeArticle(0), 1);
        Check.same("5 last", gazette.removeArticle(2), 0);
        Check.same("5 are changes", gazette.undoCount(), 7);
        Check.same("5 no articles", gazette.articleCount(), 0);
    }

    private static void correcting() {
        StoneGazette gazette = new StoneGazette();
        Check.add(gazette, 4, "moss grows on stones");
        Check.fails("6 no text", Check.UNSUPPORTED, () -> gazette.correct(0, 0));
        Check.same("6 letters before", Check.correct(gazette, 0, 1, "is"), 5);
        Check.same("6 text is empty", gazette.clearText(), 0);
        Check.same("6 replaced", Check.written(gazette, 0), "0!4:moss is on stones");
        Check.same("6 twelve letters", Check.correct(gazette, 0, 3, "abcdefghijkl"), 6);
        Check.same("6 and from twelve", Check.correct(gazette, 0, 3, "x"), 12);
        Check.same("6 are changes", gazette.undoCount(), 4);
        Check.fails("6 article before all", Check.NO_ELEMENT, () -> gazette.correct(1, 9));
        Check.fails("6 word before text", Check.BOUNDS, () -> gazette.correct(0, 4));
        for (String text : new String[] {" ", "a b", " a", "a ", "abcdefghijklm"}) {
            Check.type(gazette, text);
            Check.fails("6 '" + text + "'", Check.UNSUPPORTED, () -> gazette.correct(0, 0));
            Check.same("6 text stays", gazette.clearText(), text.length());
        }
        Check.type(gazette, "ox");
        Check.fails("6 word -1", Check.BOUNDS, () -> gazette.correct(0, -1));
        Check.fails("6 word 4", Check.BOUNDS, () -> gazette.correct(0, 4));
        Check.fails("6 article -1", Check.NO_ELEMENT, () -> gazette.correct(-1, 0));
        Check.same("6 last word", gazette.correct(0, 3), 1);
        Check.same("6 first word", Check.correct(gazette, 0, 0, "lichen"), 4);
        Check.same("6 in the end", Check.written(gazette, 0), "0!4:lichen is on ox");
    }

    private static void orders() {
        StoneGazette gazette = new StoneGazette();
        Check.fails("8 none", Check.BOUNDS, () -> gazette.article(0));
        Check.fails("9 none", Check.BOUNDS, () -> gazette.articleByPriority(0));
        int[] priorities = {3, 9, 3, 1, 9, 4};
        for (int priority : priorities) {
            Check.add(gazette, priority, "moss");
        }
        int[] ranked = {1, 4, 5, 0, 2, 3};
        for (int i = 0; i < 6; i++) {
            Check.same("8 position " + i, gazette.article(i), i);
            Check.same("9 rank " + i, gazette.articleByPriority(i), ranked[i]);
        }
        gazette.removeArticle(1);
        Check.add(gazette, 4, "moss");
        int[] left = {0, 2, 3, 4, 5, 6};
        int[] rankedThen = {4, 5, 6, 0, 2, 3};
        for (int i = 0; i < 6; i++) {
            Check.same("8 position then " + i, gazette.article(i), left[i]);
            Check.same("9 rank then " + i, gazette.articleByPriority(i), rankedThen[i]);
        }
        Check.same("7 count", gazette.articleCount(), 6);
        gazette.removeArticle(6);
        Check.same("7 count then", gazette.articleCount(), 5);
        for (int outside : new int[] {-1, 5, 6, Integer.MAX_VALUE, Integer.MIN_VALUE}) {
            Check.fails("8 outside " + outside, Check.BOUNDS, () -> gazette.article(outside));
            Check.fails("9 outside " + outside, Check.BOUNDS, () -> gazette.articleByPriority(outside));
        }
    }

    private static void wordsAndPriorities() {
        StoneGazette gazette = new StoneGazette();
        Check.add(gazette, 9, "moss grows a");
        Check.add(gazette, 1, "stone");
        Check.same("10 nine", gazette.priority(0), 9);
        Check.same("10 one", gazette.priority(1), 1);
        Check.same("11 three", gazette.wordCount(0), 3);
        Check.same("11 one", gazette.wordCount(1), 1);
        Check.same("12 first", gazette.wordLength(0, 0), 4);
        Check.same("12 second", gazette.wordLength(0, 1), 5);
        Check.same("12 third", gazette.wordLength(0, 2), 1);
        for (int outside : new int[] {-1, 2, Integer.MAX_VALUE, Integer.MIN_VALUE}) {
            Check.fails("10 outside " + outside, Check.NO_ELEMENT, () -> gazette.priority(outside));
            Check.fails("11 outside " + outside, Check.NO_ELEMENT, () -> gazette.wordCount(outside));
            Check.fails("12 outside " + outside, Check.NO_ELEMENT, () -> gazette.wordLength(outside, -1));
            Check.fails("13 outside " + outside, Check.NO_ELEMENT, () -> gazette.divisions(outside, -1));
            Check.fails("14 outside " + outside, Check.NO_ELEMENT, () -> gazette.canDivide(outside, -1, 0));
        }
        for (int outside : new int[] {-1, 3, Integer.MAX_VALUE, Integer.MIN_VALUE}) {
            Check.fails("12 word " + outside, Check.BOUNDS, () -> gazette.wordLength(0, outside));
            Check.fails("13 word " + outside, Check.BOUNDS, () -> gazette.divisions(0, outside));
            Check.fails("14 word " + outside, Check.BOUNDS, () -> gazette.canDivide(0, outside, 2));
        }
        gazette.removeArticle(0);
        Check.fails("10 removed", Check.NO_ELEMENT, () -> gazette.priority(0));
        Check.same("10 stays", gazette.priority(1), 1);
    }

    private static void divisions() {
        // Each word with its divisions, from the definition by hand.
        Object[][] words = {
            {"banana", new int[] {2, 4}}, {"be", new int[] {}}, {"koala", new int[] {3}},
            {"tomato", new int[] {2, 4}}, {"abab", new int[] {}}, {"aabb", new int[] {2}},
            {"obey", new int[] {}}, {"moss", new int[] {2}}, {"mos", new int[] {}},
            {"ababa", new int[] {3}}, {"bcdfghjklmnp", new int[] {}}, {"aeiouaeiouae", new int[] {}},
            {"bababababebo", new int[] {2, 4, 6, 8, 10}}, {"yyayy", new int[] {3}},
            {"ayyyy", new int[] {}}, {"xuxoxi", new int[] {2, 4}}, {"xixex", new int[] {2}},
            {"a", new int[] {}}, {"bbub", new int[] {}}, {"bbubb", new int[] {3}},
        };
        for (Object[] row : words) {
            StoneGazette gazette = new StoneGazette();
            Check.add(gazette, 1, "a " + row[0]);
            int[] due = (int[]) row[1];
            Check.same("13 " + row[0], gazette.divisions(0, 1), due.length);
            for (int position = -3; position <= 15; position++) {
                boolean isDue = false;
                for (int one : due) {
                    isDue |= one == position;
                }
                Check.same("14 " + row[0] + " at " + position, gazette.canDivide(0, 1, position), isDue);
            }
            Check.same("14 far", gazette.canDivide(0, 1, Integer.MAX_VALUE), false);
            Check.same("14 far below", gazette.canDivide(0, 1, Integer.MIN_VALUE), false);
        }
    }

    private static void lateCorrections() {
        StoneGazette gazette = new StoneGazette();
        Check.add(gazette, 9, "moss");
        Check.correct(gazette, 0, 0, "stone");
        Check.same("15 not printed", gazette.lateCorrections(), 0);
        gazette.print();
        Check.add(gazette, 1, "slate");
        Check.correct(gazette, 1, 0, "chalk");
        Check.same("15 printed before it was added", gazette.lateCorrections(), 0);
        Check.correct(gazette, 0, 0, "stone");
        Check.same("15 the same word counts", gazette.lateCorrections(), 1);
        Check.fails("15 a refused one", Check.UNSUPPORTED, () -> gazette.correct(0, 0));
        Check.same("15 does not count", gazette.lateCorrections(), 1);
        gazette.setPage(1, 1);
        for (int i = 0; i < 4; i++) {
            gazette.print();
        }
        Check.correct(gazette, 1, 0, "moss");
        Check.same("15 left out of all", gazette.lateCorrections(), 1);
        gazette.passDays(30);
        Check.correct(gazette, 0, 0, "granite");
        Check.same("15 kept, though not readable", gazette.lateCorrections(), 2);
        gazette.setWidth(4);
        Check.correct(gazette, 0, 0, "rhythms");
        Check.same("15 again", gazette.lateCorrections(), 3);
        for (int i = 0; i < 4; i++) {
            gazette.print();
        }
        Check.correct(gazette, 0, 0, "moss");
        Check.same("15 no kept issue has it any more", gazette.lateCorrections(), 3);
        gazette.undo();
        Check.same("15 undone", gazette.lateCorrections(), 3);
        StoneGazette undone = new StoneGazette();
        Check.add(undone, 1, "moss");
        undone.print();
        Check.correct(undone, 0, 0, "ox");
        undone.undo();
        Check.same("15 undo takes the late one back", undone.lateCorrections(), 0);
    }

    /** The article stands in one issue alone, which grows older until it is removed. */
    private static void lateForAnyKeptIssue() {
        for (int before = 0; before < 4; before++) {
            for (int behind = 0; behind < 5; behind++) {
                StoneGazette gazette = new StoneGazette();
                Check.add(gazette, 1, "moss");
                Check.add(gazette, 9, "slate");
                gazette.setPage(1, 1);
                printTimes(gazette, before);
                gazette.setPage(1, 2);
                gazette.print();
                gazette.setPage(1, 1);
                printTimes(gazette, behind);
                Check.correct(gazette, 0, 0, "ox");
                Check.same("15 " + before + " before, " + behind + " behind", gazette.lateCorrections(), behind < 4 ? 1 : 0);
            }
        }
    }

    private static void printTimes(StoneGazette gazette, int times) {
        for (int i = 0; i < times; i++) {
            gazette.print();
        }
    }
}
