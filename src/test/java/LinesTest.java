/** Promises 16 to 25: lines. */
final class LinesTest {
    private LinesTest() {
    }

    public static void main(String[] args) {
        widths();
        settings();
        cannotBeSet();
        wrongLines();
        largestArticle();
        smallestWidths();
        badness();
        badnessLimits();
        Check.end();
    }

    private static void widths() {
        StoneGazette gazette = new StoneGazette();
        Check.same("17 at first", gazette.width(), 12);
        Check.same("16 previous", gazette.setWidth(4), 12);
        Check.same("17 four", gazette.width(), 4);
        Check.same("16 previous four", gazette.setWidth(20), 4);
        Check.same("16 the same again", gazette.setWidth(20), 20);
        Check.same("16 are changes", gazette.undoCount(), 3);
        for (int wrong : new int[] {3, 21, 0, -4, Integer.MIN_VALUE, Integer.MAX_VALUE}) {
            Check.fails("16 wrong " + wrong, Check.ARGUMENT, () -> gazette.setWidth(wrong));
        }
        Check.same("17 stays", gazette.width(), 20);
        Check.same("16 no changes", gazette.undoCount(), 3);
        gazette.setWidth(12);
        Check.add(gazette, 1, "moss grows here");
        gazette.print();
        gazette.setWidth(20);
        Check.same("16 printed lines stay", gazette.linesIn(0), 2);
    }

    private static void settings() {
        // Width, text, lines and the number of hyphens, set by hand.
        Object[][] rows = {
            {12, "banana koala be", "banana koala/be", 0},
            {6, "banana koala be", "banana/koala/be", 0},
            {4, "banana koala be", "ba-/nana/koa-/la/be", 2},
            {12, "moss grows on stone", "moss grows/on stone", 0},
            {10, "moss grows on", "moss grows/on", 0},
            {9, "moss grows on", "moss gro-/ws on", 1},
            {4, "a b c d e", "a b/c d/e", 0},
            {5, "a b c d e", "a b c/d e", 0},
            {20, "a", "a", 0},
            {6, "ab banana", "ab ba-/nana", 1},
            {5, "ab banana", "ab/bana-/na", 1},
            {4, "tomato", "to-/mato", 1},
            {5, "tomato", "toma-/to", 1},
            {6, "tomato", "tomato", 0},
            {8, "aaaa tomato", "aaaa to-/mato", 1},
            {4, "abc tomato", "abc/to-/mato", 1},
            {4, "abcd ab", "abcd/ab", 0},
            {5, "abcd e", "abcd/e", 0},
            {6, "abcd e", "abcd e", 0},
            {7, "bbubbobb bubabubabu", "bbubbo-/bb bu-/babuba-/bu", 3},
            {4, "bababababebo", "ba-/ba-/ba-/ba-/bebo", 4},
            {5, "bababababebo", "baba-/baba-/bebo", 2},
            {12, "bababababebo bababababebo", "bababababebo/bababababebo", 0},
            {16, "bababababebo bababababebo", "bababababebo ba-/babababebo", 1},
        };
        for (Object[] row : rows) {
            setting(row);
        }
    }

    private static void setting(Object[] row) {
        StoneGazette gazette = new StoneGazette();
        Check.add(gazette, 1, (String) row[1]);
        gazette.setWidth((int) row[0]);
        String[] due = ((String) row[2]).split("/");
        String what = row[1] + " in " + row[0];
        Check.same("18 " + what, gazette.canBeSet(0), true);
        Check.same("19 " + what, gazette.lineCount(0), due.length);
        Check.same("21 " + what, gazette.hyphenCount(0), row[3]);
        for (int line = 0; line < due.length; line++) {
            Check.same("20 " + what, gazette.lineLength(0, line), due[line].length());
            Check.same("22 length " + what, gazette.writeLine(0, line), due[line].length());
        }
        Check.same("22 " + what, Check.lines(gazette, 0), row[2]);
        Check.fails("20 behind " + what, Check.BOUNDS, () -> gazette.lineLength(0, due.length));
        Check.fails("22 behind " + what, Check.BOUNDS, () -> gazette.writeLine(0, due.length));
    }

    private static void cannotBeSet() {
        // A first part of the fifth one fits, but then its rest has no division.
        Object[][] rows = {
            {4, "rhythm"}, {5, "rhythm"}, {4, "aeiou"}, {4, "a b lymph"}, {4, "babbbbbb"}, {11, "bcdfghjklmnp"},
        };
        for (Object[] row : rows) {
            StoneGazette gazette = new StoneGazette();
            Check.add(gazette, 1, (String) row[1]);
            gazette.setWidth((int) row[0]);
            Check.same("18 " + row[1], gazette.canBeSet(0), false);
            Check.fails("19 " + row[1], Check.UNSUPPORTED, () -> gazette.lineCount(0));
            Check.fails("20 " + row[1], Check.UNSUPPORTED, () -> gazette.lineLength(0, -1));
            Check.fails("21 " + row[1], Check.UNSUPPORTED, () -> gazette.hyphenCount(0));
            Check.fails("22 " + row[1], Check.UNSUPPORTED, () -> gazette.writeLine(0, 99));
            gazette.setWidth(12);
            Check.same("18 wide " + row[1], gazette.canBeSet(0), true);
        }
    }

    private static void wrongLines() {
        StoneGazette gazette = new StoneGazette();
        Check.add(gazette, 1, "moss grows on stone");
        for (int outside : new int[] {-1, 1, Integer.MAX_VALUE, Integer.MIN_VALUE}) {
            Check.fails("18 article", Check.NO_ELEMENT, () -> gazette.canBeSet(outside));
            Check.fails("19 article", Check.NO_ELEMENT, () -> gazette.lineCount(outside));
            Check.fails("20 article", Check.NO_ELEMENT, () -> gazette.lineLength(outside, -1));
            Check.fails("21 article", Check.NO_ELEMENT, () -> gazette.hyphenCount(outside));
            Check.fails("22 article", Check.NO_ELEMENT, () -> gazette.writeLine(outside, -1));
            Check.fails("23 article", Check.NO_ELEMENT, () -> gazette.smallestWidth(outside));
            Check.fails("24 article", Check.NO_ELEMENT, () -> gazette.leastBadness(outside));
            Check.fails("25 article", Check.NO_ELEMENT, () -> gazette.leastBadnessForward(outside));
        }
        gazette.writeLine(0, 1);
        for (int outside : new int[] {-1, 2, Integer.MAX_VALUE, Integer.MIN_VALUE}) {
            Check.fails("20 line " + outside, Check.BOUNDS, () -> gazette.lineLength(0, outside));
            Check.fails("22 line " + outside, Check.BOUNDS, () -> gazette.writeLine(0, outside));
        }
        Check.same("22 output stays", Check.output(gazette, 8), "on stone");
        Check.same("22 is no change", gazette.undoCount(), 1);
    }

    private static void largestArticle() {
        StoneGazette gazette = new StoneGazette();
        Check.add(gazette, 1, "a b c d e f g h i j k l m n o p q r s t u v w x y z a b c d");
        for (int word = 0; word < 30; word++) {
            Check.correct(gazette, 0, word, "bababababebo");
        }
        gazette.setWidth(4);
        Check.same("19 thirty long words", gazette.lineCount(0), 150);
        Check.same("21 thirty long words", gazette.hyphenCount(0), 120);
        Check.same("22 last line", Check.output(gazette, gazette.writeLine(0, 149)), "bebo");
        gazette.setWidth(20);
        Check.same("24 two methods", gazette.leastBadness(0), 29 * 64);
        Check.same("25 two methods", gazette.leastBadnessForward(0), 29 * 64);
        Check.same("45 thirty long words", gazette.isConsistent(), true);
    }

    private static void smallestWidths() {
        Object[][] rows = {
            {"a", 4}, {"abcd", 4}, {"abcde", 5}, {"tomato", 4}, {"rhythm", 6}, {"bcdfghjklmnp", 12},
            {"aeiouaeiouae", 12}, {"bbbbabbbbabb", 6}, {"moss strength", 5}, {"strngths a", 8}, {"babbbbb", 5},
        };
        for (Object[] row : rows) {
            StoneGazette gazette = new StoneGazette();
            Check.add(gazette, 1, (String) row[0]);
            Check.same("23 " + row[0], gazette.smallestWidth(0), row[1]);
            gazette.setWidth(20);
            Check.same("23 wide " + row[0], gazette.smallestWidth(0), row[1]);
            Check.same("23 leaves the width", gazette.width(), 20);
        }
    }

    private static void badness() {
        badnessIs(12, "a", 0);
        badnessIs(12, "moss grows", 0);
        badnessIs(12, "moss grows on stone", 4);
        badnessIs(10, "aaa bb cc ddddd", 1);
        // Full lines from the first word on would have 0 + 16; the least badness is 9 + 1.
        badnessIs(6, "aaa bb cc ddddd", 9 + 1);
        badnessIs(6, "aaaa bb cc ddddd", 4 + 1);
        badnessIs(4, "a b c", 1);
        badnessIs(4, "a b c d", 1);
        badnessIs(4, "abc d abcd", 1 + 9);
        badnessIs(4, "abcd abcd a", 0);
        badnessIs(5, "abcd abcd a", 1 + 1);
        badnessIs(20, "a b c d e f g h i j k", 1);
    }

    private static void badnessIs(int width, String text, int due) {
        StoneGazette gazette = new StoneGazette();
        Check.add(gazette, 1, text);
        gazette.setWidth(width);
        Check.same("24 " + text + " in " + width, gazette.leastBadness(0), due);
        Check.same("25 " + text + " in " + width, gazette.leastBadnessForward(0), due);
    }

    private static void badnessLimits() {
        StoneGazette gazette = new StoneGazette();
        Check.add(gazette, 1, "a tomato b");
        gazette.setWidth(5);
        Check.same("18 can be set", gazette.canBeSet(0), true);
        Check.fails("24 too long", Check.UNSUPPORTED, () -> gazette.leastBadness(0));
        Check.fails("25 too long", Check.UNSUPPORTED, () -> gazette.leastBadnessForward(0));
        gazette.setWidth(6);
        Check.same("24 just fits", gazette.leastBadness(0), 25);
        Check.same("25 just fits", gazette.leastBadnessForward(0), 25);
    }
}
