/** Promises 41 to 45: statistics and output. */
final class OutputTest {
    private OutputTest() {
    }

    public static void main(String[] args) {
        meanWordLengths();
        meanFreshnesses();
        writing();
        outputCharacters();
        consistency();
        Check.end();
    }

    private static void meanWordLengths() {
        StoneGazette gazette = new StoneGazette();
        Check.fails("41 none", Check.ARITHMETIC, gazette::meanWordLength);
        Check.add(gazette, 1, "moss grows a");
        Check.same("41 one article", gazette.meanWordLength(), 10.0 / 3.0);
        Check.add(gazette, 1, "abcdefghijkl be be be");
        Check.same("41 words of both", gazette.meanWordLength(), 28.0 / 7.0);
        Check.correct(gazette, 0, 2, "ox");
        Check.same("41 corrected", gazette.meanWordLength(), 29.0 / 7.0);
        gazette.removeArticle(0);
        gazette.removeArticle(1);
        Check.fails("41 none left", Check.ARITHMETIC, gazette::meanWordLength);
    }

    private static void meanFreshnesses() {
        StoneGazette gazette = new StoneGazette();
        Check.fails("42 none", Check.ARITHMETIC, gazette::meanFreshness);
        Check.add(gazette, 1, "moss");
        gazette.print();
        Check.same("42 one", gazette.meanFreshness(), 1.0f);
        gazette.passDays(17);
        gazette.print();
        gazette.passDays(11);
        gazette.print();
        gazette.passDays(5);
        Check.same("42 three", gazette.meanFreshness(),
            (gazette.freshness(0) + gazette.freshness(1) + gazette.freshness(2)) / (float) 3);
        gazette.print();
        gazette.print();
        gazette.passDays(3);
        Check.same("42 four, the first one gone", gazette.meanFreshness(),
            (gazette.freshness(1) + gazette.freshness(2) + gazette.freshness(3) + gazette.freshness(4)) / (float) 4);
        sumsBeginWithTheOldest();
    }

    /** Looks for days after which the order of the sum tells in the last bit. */
    private static void sumsBeginWithTheOldest() {
        int told = 0;
        for (int days = 1; days <= 30; days++) {
            StoneGazette gazette = new StoneGazette();
            Check.add(gazette, 1, "moss");
            for (int issue = 0; issue < 4; issue++) {
                gazette.print();
                gazette.passDays(days);
            }
            float[] f = new float[4];
            for (int issue = 0; issue < 4; issue++) {
                f[issue] = gazette.freshness(issue);
            }
            Check.same("42 days " + days, gazette.meanFreshness(), (f[0] + f[1] + f[2] + f[3]) / (float) 4);
            told += f[0] + f[1] + f[2] + f[3] != f[3] + f[2] + f[1] + f[0] ? 1 : 0;
        }
        Check.same("42 the order tells", told > 0, true);
    }

    private static void writing() {
        StoneGazette gazette = new StoneGazette();
        Check.add(gazette, 1, "a");
        Check.add(gazette, 2, "b");
        Check.add(gazette, 7, "moss grows");
        Check.same("43 length", gazette.writeArticle(2), 14);
        Check.same("43 the example", Check.output(gazette, 14), "2!7:moss grows");
        Check.same("43 shorter one", Check.written(gazette, 0), "0!1:a");
        Check.same("43 is no change", gazette.undoCount(), 3);
        for (int outside : new int[] {-1, 3, Integer.MAX_VALUE, Integer.MIN_VALUE}) {
            Check.fails("43 article " + outside, Check.NO_ELEMENT, () -> gazette.writeArticle(outside));
        }
        Check.same("43 output stays", Check.output(gazette, 5), "0!1:a");
        for (int id = 3; id < 12; id++) {
            Check.add(gazette, 9, "slate");
            if (id < 11) {
                gazette.removeArticle(id);
            }
        }
        Check.same("43 id of two digits", Check.written(gazette, 11), "11!9:slate");
        StoneGazette large = new StoneGazette();
        Check.add(large, 1, "a b c d e f g h i j k l m n o p");
        StringBuilder due = new StringBuilder("0!1");
        for (int word = 0; word < 16; word++) {
            Check.correct(large, 0, word, "abcdefghijkl");
            due.append(word == 0 ? ':' : ' ').append("abcdefghijkl");
        }
        Check.same("43 longer than a text", Check.written(large, 0), due.toString());
    }

    private static void outputCharacters() {
        StoneGazette gazette = new StoneGazette();
        Check.fails("44 empty at first", Check.BOUNDS, () -> gazette.outputCharacter(0));
        Check.add(gazette, 3, "moss tomato");
        gazette.setWidth(7);
        Check.same("22 length", gazette.writeLine(0, 0), 4);
        Check.same("44 first", gazette.outputCharacter(0), 'm');
        Check.same("44 last", gazette.outputCharacter(3), 's');
        for (int outside : new int[] {-1, 4, Integer.MAX_VALUE, Integer.MIN_VALUE}) {
            Check.fails("44 outside " + outside, Check.BOUNDS, () -> gazette.outputCharacter(outside));
        }
        gazette.removeArticle(0);
        Check.same("44 stays", Check.output(gazette, 4), "moss");
    }

    private static void consistency() {
        StoneGazette gazette = new StoneGazette();
        Check.same("45 empty", gazette.isConsistent(), true);
        Check.add(gazette, 3, "rhythm bababababebo");
        Check.add(gazette, 3, "moss grows on stone");
        for (int width = 4; width <= 20; width++) {
            gazette.setWidth(width);
            Check.same("45 width " + width, gazette.isConsistent(), true);
        }
        Check.same("45 is no change", gazette.undoCount(), 8);
        gazette.undo();
        Check.same("45 changed nothing", gazette.width(), 19);
    }
}
