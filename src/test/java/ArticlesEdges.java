/** Promises 1 to 15: a test for each sentence that names a boundary case. */
final class ArticlesEdges {
    private static final String TWELVE = "abcdefghijkl";
    private static final String THIRTY_WORDS = "a b c d e f g h i j k l m n o p q r s t u v w x y z a b c d";
    private static final String SIXTY = TWELVE + " " + TWELVE + " " + TWELVE + " " + TWELVE + " abcdefgh";
    private static final int[] FAR = {Integer.MIN_VALUE, -1, Integer.MAX_VALUE};

    private ArticlesEdges() {
    }

    static void run() {
        newNewspaper();
        lastOfAllCalls();
        typing();
        clearing();
        adding();
        addingRefused();
        wordsAndTexts();
        sixArticles();
        removing();
        correcting();
        correctingRefused();
        counting();
        positions();
        ranks();
        prioritiesAndWords();
        dividing();
        dividingByLetters();
        late();
    }

    private static void newNewspaper() {
        Sentence asked = new Sentence(1, "Creates a newspaper without articles and issues at day 0.");
        StoneGazette used = Check.with("moss");
        used.print();
        used.passDays(30);
        StoneGazette gazette = new StoneGazette();
        asked.same("articles", gazette.articleCount(), 0);
        asked.same("issues", gazette.issueCount(), 0);
        asked.same("day", gazette.day(), 0);
        asked.same("issue 0 is kept", gazette.isKept(0), false);
        asked.same("changes to undo", gazette.undoCount(), 0);
        asked.same("first id", Check.add(gazette, 1, "a"), 0);
        asked.same("first number", gazette.print(), 0);
    }

    private static void lastOfAllCalls() {
        Sentence asked = new Sentence(1,
            "An object is used for at most 512 calls after it has been made; what later calls answer is free.");
        StoneGazette articles = new StoneGazette();
        for (int call = 1; call <= 510; call += 3) {
            Check.add(articles, 9, "a");
            articles.removeArticle(call / 3);
        }
        articles.type('a');
        asked.same("addArticle is call 512", articles.addArticle(9), 170);
        StoneGazette issues = Check.with("a");
        for (int call = 3; call <= 511; call++) {
            issues.print();
        }
        asked.same("print is call 512", issues.print(), 509);
        StoneGazette days = Check.with("a");
        days.print();
        for (int call = 4; call <= 511; call++) {
            days.passDays(30);
        }
        asked.same("freshnessBits is call 512", days.freshnessBits(0), 2);
        StoneGazette day = new StoneGazette();
        for (int call = 1; call <= 511; call++) {
            day.passDays(30);
        }
        asked.same("day is call 512", day.day(), 511 * 30);
        StoneGazette saves = new StoneGazette();
        for (int call = 1; call <= 511; call++) {
            saves.save();
        }
        asked.same("restore is call 512", saves.restore(), 0);
    }

    private static void typing() {
        Sentence full = new Sentence(2, "Throws `IllegalStateException` if the text has 60 characters");
        Sentence length = new Sentence(2, "Returns the new length of the text.");
        StoneGazette gazette = new StoneGazette();
        for (int due = 1; due <= 60; due++) {
            length.same("character " + due, gazette.type(due % 2 == 0 ? ' ' : 'm'), due);
        }
        full.fails("a letter", Check.STATE, () -> gazette.type('a'));
        full.fails("a blank", Check.STATE, () -> gazette.type(' '));
        full.same("the text afterwards", gazette.clearText(), 60);
        length.same("after clearing", gazette.type('z'), 1);
        gazette.addArticle(1);
        length.same("after addArticle", gazette.type('z'), 1);
        Sentence wrong = new Sentence(2,
            "Throws `IllegalArgumentException` if the character is neither a letter from a to z nor a blank");
        char[] others = {'a' - 1, 'z' + 1, ' ' - 1, ' ' + 1, 'A', 'Z', '0', '-', ';', '\t', '\n', 0, 127, 160, 228, 255,
            'a' + 256, ' ' + 256, 'z' + 0x8000, 0xffff};
        for (char other : others) {
            wrong.fails("character " + (int) other, Check.ARGUMENT, () -> gazette.type(other));
        }
        wrong.same("length after them", gazette.type('a'), 2);
        for (char letter = 'a'; letter <= 'z'; letter++) {
            char typed = letter;
            wrong.works("letter " + letter, () -> gazette.type(typed));
        }
        wrong.works("blank", () -> gazette.type(' '));
    }

    private static void clearing() {
        Sentence emptied = new Sentence(3, "Empties the text.");
        Sentence had = new Sentence(3, "Returns the number of characters that it had.");
        StoneGazette gazette = new StoneGazette();
        had.same("no text", gazette.clearText(), 0);
        gazette.type(' ');
        had.same("a blank", gazette.clearText(), 1);
        Check.type(gazette, SIXTY);
        had.same("a full text", gazette.clearText(), 60);
        had.same("once more", gazette.clearText(), 0);
        emptied.fails("addArticle", Check.UNSUPPORTED, () -> gazette.addArticle(1));
        emptied.same("the first character after it", gazette.type('x'), 1);
        emptied.same("addArticle", gazette.addArticle(1), 0);
        emptied.same("nothing is left of the former text", Check.written(gazette, 0), "0!1:x");
    }

    private static void adding() {
        Sentence words = new Sentence(4, "Adds an article with the words of the text.");
        for (String text : new String[] {"a", TWELVE, THIRTY_WORDS, SIXTY}) {
            StoneGazette gazette = Check.with(text);
            words.same("written", Check.written(gazette, 0), "0!5:" + text);
            words.same("words of " + text, gazette.wordCount(0), text.split(" ").length);
        }
        Sentence empty = new Sentence(4, "The text is empty afterwards.");
        StoneGazette gazette = Check.with(SIXTY);
        empty.same("after a full text", gazette.clearText(), 0);
        Check.type(gazette, "moss");
        Check.outcome(() -> gazette.addArticle(0));
        empty.same("not after a refused call", gazette.clearText(), 4);
        Sentence id = new Sentence(4, "Returns the id of the article.");
        id.same("the second one", Check.add(gazette, 9, "a"), 1);
        id.same("the third one", Check.add(gazette, 1, "a"), 2);
        id.same("it is the one that was added", gazette.priority(2), 1);
    }

    private static void addingRefused() {
        Sentence priority = new Sentence(4, "Throws `IllegalArgumentException` if priority is not from 1 to 9");
        StoneGazette gazette = new StoneGazette();
        Check.type(gazette, "moss");
        for (int wrong : new int[] {0, 10, -1, 257, Integer.MIN_VALUE, Integer.MAX_VALUE}) {
            priority.fails("priority " + wrong, Check.ARGUMENT, () -> gazette.addArticle(wrong));
        }
        priority.same("priority 1", gazette.addArticle(1), 0);
        priority.same("priority 9", Check.add(gazette, 9, "moss"), 1);
        Sentence sixth = new Sentence(4, "Throws `IllegalStateException` if there are 6 articles");
        for (int id = 2; id < 6; id++) {
            sixth.same("article " + (id + 1), Check.add(gazette, 5, "a"), id);
        }
        Check.type(gazette, "moss");
        sixth.fails("the seventh", Check.STATE, () -> gazette.addArticle(5));
        gazette.removeArticle(3);
        sixth.same("after one was removed", gazette.addArticle(5), 6);
        Check.type(gazette, "moss");
        sixth.fails("six again", Check.STATE, () -> gazette.addArticle(5));
        gazette.undo();
        sixth.same("after one was undone", gazette.addArticle(5), 6);
        Sentence text = new Sentence(4, "Throws `UnsupportedOperationException` if the text is not an article text");
        StoneGazette other = new StoneGazette();
        text.fails("no text", Check.UNSUPPORTED, () -> other.addArticle(5));
        other.type(' ');
        text.fails("a blank", Check.UNSUPPORTED, () -> other.addArticle(5));
        text.same("the text stays", other.clearText(), 1);
        text.same("a letter", Check.add(other, 5, "a"), 0);
    }

    private static void wordsAndTexts() {
        Sentence word = new Sentence(4, "A word consists of 1 to 12 letters from 'a' to 'z'.");
        isText(word, "a", true);
        isText(word, "z", true);
        isText(word, TWELVE, true);
        isText(word, TWELVE + "m", false);
        isText(word, TWELVE + " " + TWELVE, true);
        isText(word, TWELVE + "m a", false);
        isText(word, "a " + TWELVE + "m", false);
        Sentence single = new Sentence(4,
            "It is an article text if it consists of one or more words with a single blank between two of them.");
        isText(single, "", false);
        isText(single, " ", false);
        isText(single, "a", true);
        isText(single, " a", false);
        isText(single, "a ", false);
        isText(single, "a b", true);
        isText(single, "a  b", false);
        isText(single, "a b ", false);
        isText(single, THIRTY_WORDS, true);
        isText(single, THIRTY_WORDS + " ", false);
        isText(single, SIXTY, true);
        Sentence buffer = new Sentence(2, "The text is a buffer of at most 60 characters.");
        StoneGazette gazette = new StoneGazette();
        Check.type(gazette, SIXTY);
        buffer.fails("the sixty-first", Check.STATE, () -> gazette.type('a'));
        gazette.addArticle(5);
        buffer.same("all sixty are kept", Check.written(gazette, 0), "0!5:" + SIXTY);
    }

    private static void isText(Sentence asked, String text, boolean due) {
        StoneGazette gazette = new StoneGazette();
        Check.type(gazette, text);
        if (due) {
            asked.same("'" + text + "'", gazette.addArticle(5), 0);
            return;
        }
        asked.fails("'" + text + "'", Check.UNSUPPORTED, () -> gazette.addArticle(5));
        asked.same("'" + text + "' stays", gazette.clearText(), text.length());
    }

    private static void sixArticles() {
        Sentence most = new Sentence(4, "At most 6 articles exist.");
        StoneGazette gazette = Check.with("a", "b", "c", "d", "e", "f");
        Check.type(gazette, "g");
        most.fails("the seventh", Check.STATE, () -> gazette.addArticle(5));
        most.same("as many as before", gazette.articleCount(), 6);
        Sentence ids = new Sentence(4,
            "Their ids are given in ascending order, beginning with 0; the id of a removed article is not given again.");
        gazette.removeArticle(5);
        ids.same("not the highest one again", gazette.addArticle(5), 6);
        for (int id = 0; id < 5; id++) {
            gazette.removeArticle(id);
        }
        gazette.removeArticle(6);
        ids.same("no article is left", Check.add(gazette, 5, "h"), 7);
        Check.type(gazette, " ");
        Check.outcome(() -> gazette.addArticle(5));
        gazette.clearText();
        ids.same("a refused call takes no id", Check.add(gazette, 5, "h"), 8);
        Sentence numbered = new Sentence(12, "An article has a priority from 1 to 9 and words, which are numbered from 0.");
        StoneGazette other = new StoneGazette();
        Check.add(other, 1, "moss is a");
        Check.add(other, 9, "a");
        numbered.same("least priority", other.priority(0), 1);
        numbered.same("greatest priority", other.priority(1), 9);
        numbered.same("word 0", other.wordLength(0, 0), 4);
        numbered.same("word 2", other.wordLength(0, 2), 1);
        numbered.fails("word 3", Check.BOUNDS, () -> other.wordLength(0, 3));
    }

    private static void removing() {
        Sentence.noSuchArticle(5, StoneGazette::removeArticle);
        Sentence remain = new Sentence(5, "Returns the number of articles that remain.");
        StoneGazette gazette = Check.with("a", "b", "c", "d", "e", "f");
        int[] order = {5, 0, 2, 1, 4, 3};
        for (int i = 0; i < 6; i++) {
            remain.same("after " + (i + 1), gazette.removeArticle(order[i]), 5 - i);
        }
        Sentence removed = new Sentence(5, "Removes an article.");
        for (int id = 0; id < 3; id++) {
            int gone = id;
            StoneGazette three = Check.with("a", "b", "c");
            three.removeArticle(gone);
            removed.fails("article " + gone, Check.NO_ELEMENT, () -> three.priority(gone));
            removed.same("the others", three.article(0) * 10 + three.article(1), new int[] {12, 2, 1}[gone]);
        }
        Sentence stay = new Sentence(5, "Issues that contain it stay.");
        StoneGazette printed = Check.with("moss");
        printed.print();
        printed.removeArticle(0);
        stay.same("the issue of the only article", printed.isKept(0), true);
        stay.same("its articles", printed.articlesIn(0), 1);
        stay.same("its place", printed.rowOf(0, 0), 0);
    }

    private static void correcting() {
        Sentence replaced = new Sentence(6, "Replaces a word of an article by the text, which must be a single word.");
        StoneGazette gazette = Check.with(THIRTY_WORDS, "a");
        Check.correct(gazette, 0, 0, "x");
        replaced.same("the first word", Check.written(gazette, 0), "0!5:x" + THIRTY_WORDS.substring(1));
        Check.correct(gazette, 0, 29, "yy");
        replaced.same("the last word", Check.written(gazette, 0), "0!5:x" + THIRTY_WORDS.substring(1, 58) + "yy");
        replaced.same("the other article", Check.written(gazette, 1), "1!5:a");
        Check.correct(gazette, 1, 0, "a");
        replaced.same("the same word again", Check.written(gazette, 1), "1!5:a");
        Sentence before = new Sentence(6, "Returns the number of letters of the word before.");
        before.same("one letter", Check.correct(gazette, 1, 0, TWELVE), 1);
        before.same("twelve letters", Check.correct(gazette, 1, 0, "x"), 12);
        Sentence empty = new Sentence(6, "The text is empty afterwards.");
        empty.same("after a correction", gazette.clearText(), 0);
        Check.type(gazette, "ox");
        Check.outcome(() -> gazette.correct(1, 1));
        empty.same("not after a refused one", gazette.clearText(), 2);
        Sentence another = new Sentence(6, "A correction replaces a word of an article by another one.");
        StoneGazette longer = Check.with("a b c d e f g h");
        for (int word = 0; word < 8; word++) {
            Check.correct(longer, 0, word, TWELVE);
        }
        another.same("longer than any text", longer.writeArticle(0), 4 + 8 * 12 + 7);
        another.same("the words are as many", longer.wordCount(0), 8);
    }

    private static void correctingRefused() {
        Sentence.noSuchArticle(6, (gazette, article) -> {
            gazette.clearText();
            return Check.correct(gazette, article, 0, "ox");
        });
        Sentence.noSuchWord(6, (gazette, article, word) -> {
            gazette.clearText();
            return Check.correct(gazette, article, word, "ox");
        });
        Sentence asked = new Sentence(6, "Throws `UnsupportedOperationException` if the text is not a word");
        for (String text : new String[] {"", " ", "a b", " a", "a ", TWELVE + "m", TWELVE + " ", SIXTY}) {
            StoneGazette gazette = Check.with("moss");
            Check.type(gazette, text);
            asked.fails("'" + text + "'", Check.UNSUPPORTED, () -> gazette.correct(0, 0));
            asked.same("'" + text + "' stays", gazette.clearText(), text.length());
            asked.same("the article stays", Check.written(gazette, 0), "0!5:moss");
        }
        for (String text : new String[] {"a", TWELVE}) {
            StoneGazette gazette = Check.with("moss");
            asked.same("'" + text + "'", Check.correct(gazette, 0, 0, text), 4);
        }
    }

    private static void counting() {
        Sentence asked = new Sentence(7, "Returns the number of articles.");
        StoneGazette gazette = new StoneGazette();
        asked.same("none", gazette.articleCount(), 0);
        for (int count = 1; count <= 6; count++) {
            Check.add(gazette, 5, "a");
            asked.same("added", gazette.articleCount(), count);
        }
        gazette.type('a');
        Check.outcome(() -> gazette.addArticle(5));
        asked.same("after a seventh was refused", gazette.articleCount(), 6);
        for (int id = 0; id < 6; id++) {
            gazette.removeArticle(id);
            asked.same("removed", gazette.articleCount(), 5 - id);
        }
    }

    private static void positions() {
        Sentence none = new Sentence(8, "Throws `IndexOutOfBoundsException` if there is no such position");
        StoneGazette gazette = new StoneGazette();
        none.fails("no articles", Check.BOUNDS, () -> gazette.article(0));
        for (int id = 0; id < 6; id++) {
            Check.add(gazette, 9 - id, "a");
            int behind = id + 1;
            none.fails("behind the last one", Check.BOUNDS, () -> gazette.article(behind));
        }
        for (int far : FAR) {
            none.fails("position " + far, Check.BOUNDS, () -> gazette.article(far));
        }
        Sentence from = new Sentence(8, "`position`: the position, from 0");
        from.same("0", gazette.article(0), 0);
        from.same("5", gazette.article(5), 5);
        Sentence ascending = new Sentence(8, "Returns an article by the position in ascending order of ids.");
        gazette.removeArticle(0);
        Sentence id = new Sentence(8, "Returns the id of the article.");
        id.same("not the position", gazette.article(0), 1);
        id.same("not the position, the last one", gazette.article(4), 5);
        gazette.removeArticle(3);
        Check.add(gazette, 9, "a");
        int[] due = {1, 2, 4, 5, 6};
        for (int position = 0; position < 5; position++) {
            ascending.same("position " + position, gazette.article(position), due[position]);
        }
        none.fails("as many as are left", Check.BOUNDS, () -> gazette.article(5));
    }

    private static void ranks() {
        Sentence none = new Sentence(9, "Throws `IndexOutOfBoundsException` if there is no such rank");
        StoneGazette gazette = new StoneGazette();
        none.fails("no articles", Check.BOUNDS, () -> gazette.articleByPriority(0));
        int[] priorities = {1, 9, 9, 1, 5, 9};
        for (int id = 0; id < 6; id++) {
            Check.add(gazette, priorities[id], "a");
            int behind = id + 1;
            none.fails("behind the last one", Check.BOUNDS, () -> gazette.articleByPriority(behind));
        }
        for (int far : FAR) {
            none.fails("rank " + far, Check.BOUNDS, () -> gazette.articleByPriority(far));
        }
        Sentence from = new Sentence(9, "`rank`: the rank, from 0");
        from.same("0", gazette.articleByPriority(0), 1);
        from.same("5", gazette.articleByPriority(5), 3);
        Sentence order = new Sentence(9, "Returns an article by the order in which articles are considered for an issue.");
        int[] due = {1, 2, 5, 4, 0, 3};
        for (int rank = 0; rank < 6; rank++) {
            order.same("rank " + rank, gazette.articleByPriority(rank), due[rank]);
        }
        gazette.removeArticle(1);
        Sentence rankedId = new Sentence(9, "Returns the id of the article.");
        rankedId.same("not the rank", gazette.articleByPriority(0), 2);
        rankedId.same("not the rank, the last one", gazette.articleByPriority(4), 3);
        StoneGazette equal = Check.with("a", "b", "c", "d", "e", "f");
        for (int rank = 0; rank < 6; rank++) {
            order.same("equal priorities, rank " + rank, equal.articleByPriority(rank), rank);
        }
    }

    private static void prioritiesAndWords() {
        Sentence.noSuchArticle(10, StoneGazette::priority);
        Sentence.noSuchArticle(11, StoneGazette::wordCount);
        Sentence.noSuchArticle(12, (gazette, article) -> gazette.wordLength(article, 0));
        Sentence.noSuchWord(12, StoneGazette::wordLength);
        StoneGazette gazette = new StoneGazette();
        Check.add(gazette, 1, "a");
        Check.add(gazette, 9, THIRTY_WORDS);
        Check.add(gazette, 5, SIXTY);
        Sentence priority = new Sentence(10, "Returns the priority of an article.");
        priority.same("the least", gazette.priority(0), 1);
        priority.same("the greatest", gazette.priority(1), 9);
        Sentence count = new Sentence(11, "Returns the number of words of an article.");
        count.same("one", gazette.wordCount(0), 1);
        count.same("thirty", gazette.wordCount(1), 30);
        count.same("sixty characters", gazette.wordCount(2), 5);
        Sentence length = new Sentence(12, "Returns the number of letters of a word.");
        length.same("one", gazette.wordLength(0, 0), 1);
        length.same("the last of thirty", gazette.wordLength(1, 29), 1);
        length.same("twelve", gazette.wordLength(2, 0), 12);
        length.same("up to the end of the text", gazette.wordLength(2, 4), 8);
    }

    private static void dividing() {
        Sentence.noSuchArticle(13, (gazette, article) -> gazette.divisions(article, 0));
        Sentence.noSuchWord(13, StoneGazette::divisions);
        Sentence.noSuchArticle(14, (gazette, article) -> gazette.canDivide(article, 0, 2));
        Sentence.noSuchWord(14, (gazette, article, word) -> gazette.canDivide(article, word, 2));
        Sentence count = new Sentence(13, "Returns the number of positions at which a word can be divided.");
        count.same("one letter", divisionsOf("a"), 0);
        count.same("three letters", divisionsOf("aab"), 0);
        count.same("four letters", divisionsOf("aabb"), 1);
        count.same("no vowel", divisionsOf("bcdfghjklmnp"), 0);
        count.same("vowels alone", divisionsOf("aeiouaeiouae"), 0);
        count.same("as many as there can be", divisionsOf("bababababebo"), 5);
        Sentence any = new Sentence(14, "Returns true if it can be divided there, false for any other number.");
        StoneGazette gazette = Check.with("bababababebo");
        for (int position = -2; position <= 14; position++) {
            boolean due = position >= 2 && position <= 10 && position % 2 == 0;
            any.same("position " + position, gazette.canDivide(0, 0, position), due);
        }
        for (int far : new int[] {Integer.MIN_VALUE, Integer.MAX_VALUE, 256 + 2, 65536 + 2, -10}) {
            any.same("position " + far, gazette.canDivide(0, 0, far), false);
        }
        Sentence whether = new Sentence(14, "Returns whether a word can be divided at a position.");
        StoneGazette two = Check.with("moss rhythm");
        whether.same("the first word", two.canDivide(0, 0, 2), true);
        whether.same("the second word", two.canDivide(0, 1, 2), false);
    }

    private static int divisionsOf(String word) {
        return Check.with(word).divisions(0, 0);
    }

    private static boolean divides(String word, int position) {
        return Check.with(word).canDivide(0, 0, position);
    }

    private static void dividingByLetters() {
        Sentence where = new Sentence(14, "A word can be divided at a position p, which is the number of letters before it, "
            + "if there are at least 2 letters before it and at least 2 letters after it, the letter directly before it is a vowel, "
            + "and the letter directly after it is not a vowel.");
        where.same("one letter before", divides("obbb", 1), false);
        where.same("two letters before and two after", divides("bobb", 2), true);
        where.same("one letter after", divides("bob", 2), false);
        where.same("two letters after twelve less two", divides("bbbbbbbbbobb", 10), true);
        where.same("one letter after eleven", divides("bbbbbbbbbbob", 11), false);
        where.same("a consonant before", divides("bbbb", 2), false);
        where.same("a vowel after", divides("booo", 2), false);
        where.same("a consonant before and a vowel after", divides("bbob", 2), false);
        where.same("no letter before", divides("bobb", 0), false);
        where.same("no letter after", divides("bobo", 4), false);
        Sentence vowels = new Sentence(14, "The vowels are 'a', 'e', 'i', 'o' and 'u'.");
        for (char letter = 'a'; letter <= 'z'; letter++) {
            boolean isVowel = "aeiou".indexOf(letter) >= 0;
            vowels.same(letter + " before", divides("b" + letter + "bb", 2), isVowel);
            vowels.same(letter + " after", divides("ba" + letter + "b", 2), !isVowel);
        }
    }

    private static void late() {
        Sentence count = new Sentence(15, "Returns the number of corrections that were late.");
        StoneGazette gazette = Check.with("moss", "slate");
        count.same("no correction", gazette.lateCorrections(), 0);
        Check.correct(gazette, 0, 0, "ox");
        count.same("before the first issue", gazette.lateCorrections(), 0);
        gazette.print();
        count.same("printing makes no earlier one late", gazette.lateCorrections(), 0);
        Check.correct(gazette, 0, 0, "ox");
        Check.correct(gazette, 0, 0, "ox");
        count.same("two of one word", gazette.lateCorrections(), 2);
        Check.outcome(() -> gazette.correct(0, 0));
        count.same("a refused one", gazette.lateCorrections(), 2);
        gazette.undo();
        count.same("an undone one", gazette.lateCorrections(), 1);
        gazette.removeArticle(0);
        count.same("the article was removed", gazette.lateCorrections(), 1);
        Sentence kept = new Sentence(15, "It is late if a kept issue contains the article.");
        StoneGazette other = Check.with("moss", "slate");
        other.setPage(1, 1);
        other.print();
        Check.correct(other, 1, 0, "ox");
        kept.same("the issue does not contain it", other.lateCorrections(), 0);
        other.setPage(1, 2);
        for (int i = 0; i < 4; i++) {
            other.print();
        }
        Check.correct(other, 1, 0, "ox");
        kept.same("all four contain it", other.lateCorrections(), 1);
        StoneGazette gone = Check.with("moss");
        gone.print();
        gone.setWidth(4);
        Check.correct(gone, 0, 0, "rhythm");
        kept.same("the only issue contains it", gone.lateCorrections(), 1);
        for (int i = 0; i < 3; i++) {
            gone.print();
        }
        gone.passDays(30);
        Check.correct(gone, 0, 0, "rhythm");
        kept.same("the oldest of four alone contains it, not readable any more", gone.lateCorrections(), 2);
        gone.print();
        Check.correct(gone, 0, 0, "rhythm");
        kept.same("that one is not kept any more", gone.lateCorrections(), 2);
    }
}
