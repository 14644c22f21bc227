import java.util.ArrayList;
import java.util.NoSuchElementException;

/** A newspaper on stone. The promises that it keeps stand in ../shared/DOC.md. */
public final class StoneGazette {
    private static final int MOST_LETTERS = 12;
    private static final int MOST_WORDS = 30;
    private static final int MOST_SIGNS = 60;
    private static final int MOST_ARTICLES = 6;
    private static final int MOST_ISSUES = 4;
    private static final int MOST_CHANGES = 8;
    private static final int MOST_PRIORITY = 9;
    private static final int LEAST_WIDTH = 4;
    private static final int MOST_WIDTH = 20;
    private static final int MOST_COLUMNS = 4;
    private static final int MOST_HEIGHT = 20;
    private static final int MOST_DAYS = 30;
    private static final int NONE = -1;
    private static final Keyword[] KEYWORDS = Keyword.values();

    private final Buffer text = new Buffer(MOST_SIGNS);
    private final Buffer commandBuffer = new Buffer(MOST_SIGNS);
    private final StringBuilder output = new StringBuilder();
    private final LineSetter lineSetter = new LineSetter();
    private final EvenBreaker evenBreaker = new EvenBreaker();
    private final CommandReader commandReader = new CommandReader();
    private final ArrayList<State> history = new ArrayList<>();
    private State state = new State();
    private State saved = null;
    private int keptErrorPosition = NONE;
    private int keptFailedCommand = NONE;

    public StoneGazette() {
    }

    // ---- text and articles ----

    public int type(char character) throws IllegalArgumentException, IllegalStateException {
        if (character != ' ' && (character < 'a' || character > 'z')) {
            throw new IllegalArgumentException("neither a letter from a to z nor a blank");
        }
        if (!text.append(character)) {
            throw new IllegalStateException("the text is full");
        }
        return text.length;
    }

    public int clearText() {
        return text.empty();
    }

    public int addArticle(int priority)
            throws IllegalArgumentException, IllegalStateException, UnsupportedOperationException {
        if (priority < 1 || priority > MOST_PRIORITY) {
            throw new IllegalArgumentException("priority is not from 1 to 9");
        }
        if (state.articles.size() >= MOST_ARTICLES) {
            throw new IllegalStateException("there are 6 articles");
        }
        if (!text.holdsWords()) {
            throw new UnsupportedOperationException("the text is not an article text");
        }
        State next = state.copied();
        int id = next.takeArticle(priority, text.cutIntoWords());
        text.empty();
        become(next);
        return id;
    }

    public int removeArticle(int article) throws NoSuchElementException {
        State next = state.copied();
        if (!next.dropArticle(article)) {
            throw new NoSuchElementException("there is no such article");
        }
        become(next);
        return state.articles.size();
    }

    public int correct(int article, int word)
            throws NoSuchElementException, IndexOutOfBoundsException, UnsupportedOperationException {
        Word former = knownWord(article, word);
        if (!text.holdsOneWord()) {
            throw new UnsupportedOperationException("the text is not a word");
        }
        State next = state.copied();
        next.replaceWord(article, word, text.wordBetween(0, text.length));
        text.empty();
        become(next);
        return former.letterCount();
    }

    public int articleCount() {
        return state.articles.size();
    }

    public int article(int position) throws IndexOutOfBoundsException {
        if (position < 0 || position >= state.articles.size()) {
            throw new IndexOutOfBoundsException("there is no such position");
        }
        return state.articles.get(position).id;
    }

    public int articleByPriority(int rank) throws IndexOutOfBoundsException {
        Article found = state.ranked(rank);
        if (found == null) {
            throw new IndexOutOfBoundsException("there is no such rank");
        }
        return found.id;
    }

    public int priority(int article) throws NoSuchElementException {
        return knownArticle(article).priority;
    }

    public int wordCount(int article) throws NoSuchElementException {
        return knownArticle(article).words.length;
    }

    public int wordLength(int article, int word) throws NoSuchElementException, IndexOutOfBoundsException {
        return knownWord(article, word).letterCount();
    }

    public int divisions(int article, int word) throws NoSuchElementException, IndexOutOfBoundsException {
        return knownWord(article, word).countCuts();
    }

    public boolean canDivide(int article, int word, int position)
            throws NoSuchElementException, IndexOutOfBoundsException {
        return knownWord(article, word).hasCutAt(position);
    }

    public int lateCorrections() {
        return state.lateOnes;
    }

    // ---- lines ----

    public int setWidth(int width) throws IllegalArgumentException {
        State next = state.copied();
        if (!next.takeWidth(width)) {
            throw new IllegalArgumentException("width is not from 4 to 20");
        }
        int previous = state.columnWidth;
        become(next);
        return previous;
    }

    public int width() {
        return state.columnWidth;
    }

    public boolean canBeSet(int article) throws NoSuchElementException {
        return lineSetter.arrange(knownArticle(article), state.columnWidth);
    }

    public int lineCount(int article) throws NoSuchElementException, UnsupportedOperationException {
        arrangeKnown(article);
        return lineSetter.lines;
    }

    public int lineLength(int article, int line)
            throws NoSuchElementException, UnsupportedOperationException, IndexOutOfBoundsException {
        arrangeKnownLine(article, line);
        return lineSetter.lengthOf(line);
    }

    public int hyphenCount(int article) throws NoSuchElementException, UnsupportedOperationException {
        arrangeKnown(article);
        return lineSetter.countHyphens();
    }

    public int writeLine(int article, int line)
            throws NoSuchElementException, UnsupportedOperationException, IndexOutOfBoundsException {
        arrangeKnownLine(article, line);
        output.setLength(0);
        lineSetter.writeTo(output, line);
        return output.length();
    }

    public int smallestWidth(int article) throws NoSuchElementException {
        Article known = knownArticle(article);
        for (int tried = LEAST_WIDTH; tried < MOST_WIDTH; tried++) {
            if (lineSetter.arrange(known, tried)) {
                return tried;
            }
        }
        return MOST_WIDTH;
    }

    public int leastBadness(int article) throws NoSuchElementException, UnsupportedOperationException {
        return evenBreaker.fromLastWord(knownNarrowArticle(article), state.columnWidth);
    }

    public int leastBadnessForward(int article) throws NoSuchElementException, UnsupportedOperationException {
        return evenBreaker.fromFirstWord(knownNarrowArticle(article), state.columnWidth);
    }

    // ---- pages, issues and fading ----

    public int setPage(int columns, int height) throws IllegalArgumentException {
        State next = state.copied();
        if (!next.takePage(columns, height)) {
            throw new IllegalArgumentException("columns is not from 1 to 4 or height is not from 1 to 20");
        }
        become(next);
        return columns * height;
    }

    public int print() throws IllegalStateException {
        int number = state.nextNumber;
        State next = state.copied();
        if (!next.printIssue(lineSetter)) {
            throw new IllegalStateException("there are no articles");
        }
        become(next);
        return number;
    }

    public int issueCount() {
        return state.issues.size();
    }

    public boolean isKept(int issue) {
        return state.findIssue(issue) != null;
    }

    public int articlesIn(int issue) throws NoSuchElementException {
        return knownIssue(issue).page.taken;
    }

    public int linesIn(int issue) throws NoSuchElementException {
        return knownIssue(issue).page.usedLines;
    }

    public int columnOf(int issue, int article) throws NoSuchElementException {
        Page page = knownPage(issue, article);
        return page.columnAt(page.firstLineOf(article));
    }

    public int rowOf(int issue, int article) throws NoSuchElementException {
        Page page = knownPage(issue, article);
        return page.rowAt(page.firstLineOf(article));
    }

    public float coverage(int issue) throws NoSuchElementException {
        return knownIssue(issue).page.coveredPart();
    }

    public int passDays(int days) throws IllegalArgumentException {
        State next = state.copied();
        if (!next.letDaysPass(days)) {
            throw new IllegalArgumentException("days is not from 1 to 30");
        }
        int lost = state.countReadable() - next.countReadable();
        become(next);
        return lost;
    }

    public int day() {
        return state.today;
    }

    public float freshness(int issue) throws NoSuchElementException {
        return knownIssue(issue).freshness;
    }

    public int freshnessBits(int issue) throws NoSuchElementException {
        return bitsOf(knownIssue(issue).freshness);
    }

    public boolean isReadable(int issue) throws NoSuchElementException {
        return knownIssue(issue).canBeRead();
    }

    public int daysUntilUnreadable(int issue) throws NoSuchElementException {
        Issue fading = knownIssue(issue);
        int days = 0;
        while (days < MOST_DAYS && fading.canBeRead()) {
            fading = fading.faded(1);
            days++;
        }
        return days;
    }

    // ---- statistics and output ----

    public double meanWordLength() throws ArithmeticException {
        int letters = 0;
        int words = 0;
        for (int i = 0; i < state.articles.size(); i++) {
            Article counted = state.articles.get(i);
            letters += counted.countLetters();
            words += counted.words.length;
        }
        if (words == 0) {
            throw new ArithmeticException("there are no articles");
        }
        return (double) letters / (double) words;
    }

    public float meanFreshness() throws ArithmeticException {
        int count = state.issues.size();
        if (count == 0) {
            throw new ArithmeticException("no issue is kept");
        }
        float sum = 0.0f;
        for (int i = 0; i < count; i++) {
            sum = sum + state.issues.get(i).freshness;
        }
        return sum / (float) count;
    }

    public int writeArticle(int article) throws NoSuchElementException {
        Article known = knownArticle(article);
        output.setLength(0);
        known.writeTo(output);
        return output.length();
    }

    public char outputCharacter(int index) throws IndexOutOfBoundsException {
        if (index < 0 || index >= output.length()) {
            throw new IndexOutOfBoundsException("there is no such character");
        }
        return output.charAt(index);
    }

    public boolean isConsistent() {
        for (int i = 0; i < state.articles.size(); i++) {
            Article checked = state.articles.get(i);
            if (!linesKeepWidth(checked) || !badnessesAgree(checked)) {
                return false;
            }
        }
        return true;
    }

    // ---- commands, undo and saved state ----

    public int feed(char character) throws IllegalStateException {
        if (!commandBuffer.append(character)) {
            throw new IllegalStateException("the command buffer is full");
        }
        return commandBuffer.length;
    }

    public int execute() throws IllegalArgumentException, UnsupportedOperationException {
        boolean wellFormed = commandReader.readAll(commandBuffer);
        commandBuffer.empty();
        if (!wellFormed) {
            keptErrorPosition = commandReader.position;
            throw new IllegalArgumentException("the commands are malformed");
        }
        ArrayList<Command> commands = commandReader.commands;
        State next = state.copied();
        for (int i = 0; i < commands.size(); i++) {
            if (!carryOut(commands.get(i), next)) {
                keptFailedCommand = i;
                throw new UnsupportedOperationException("a command throws an exception");
            }
        }
        become(next);
        return commands.size();
    }

    public int errorPosition() throws NoSuchElementException {
        if (keptErrorPosition == NONE) {
            throw new NoSuchElementException("no error position was kept");
        }
        return keptErrorPosition;
    }

    public int failedCommand() throws NoSuchElementException {
        if (keptFailedCommand == NONE) {
            throw new NoSuchElementException("no failed command was kept");
        }
        return keptFailedCommand;
    }

    public int undo() throws IllegalStateException {
        int latest = history.size() - 1;
        if (latest < 0) {
            throw new IllegalStateException("there is no change to undo");
        }
        state = history.remove(latest);
        return latest;
    }

    public int undoCount() {
        return history.size();
    }

    public int save() {
        // A state that was current is never altered again, so the reference alone keeps it.
        saved = state;
        return state.articles.size();
    }

    public int restore() throws IllegalStateException {
        if (saved == null) {
            throw new IllegalStateException("nothing was saved");
        }
        state = saved;
        history.clear();
        return state.articles.size();
    }

    // ---- what the calls share ----

    /** Makes a change: an altered copy takes the place of the current state, which can be undone to. */
    private void become(State next) {
        history.add(state);
        if (history.size() > MOST_CHANGES) {
            history.remove(0);
        }
        state = next;
    }

    private Article knownArticle(int id) throws NoSuchElementException {
        Article found = state.findArticle(id);
        if (found == null) {
            throw new NoSuchElementException("there is no such article");
        }
        return found;
    }

    private Word knownWord(int id, int number) throws NoSuchElementException, IndexOutOfBoundsException {
        Article known = knownArticle(id);
        if (number < 0 || number >= known.words.length) {
            throw new IndexOutOfBoundsException("there is no such word");
        }
        return known.words[number];
    }

    private Article knownNarrowArticle(int id) throws NoSuchElementException, UnsupportedOperationException {
        Article known = knownArticle(id);
        if (known.longestWord() > state.columnWidth) {
            throw new UnsupportedOperationException("a word is longer than the column width");
        }
        return known;
    }

    private void arrangeKnown(int id) throws NoSuchElementException, UnsupportedOperationException {
        if (!lineSetter.arrange(knownArticle(id), state.columnWidth)) {
            throw new UnsupportedOperationException("the article cannot be set");
        }
    }

    private void arrangeKnownLine(int id, int line)
            throws NoSuchElementException, UnsupportedOperationException, IndexOutOfBoundsException {
        arrangeKnown(id);
        if (line < 0 || line >= lineSetter.lines) {
            throw new IndexOutOfBoundsException("there is no such line");
        }
    }

    private Issue knownIssue(int number) throws NoSuchElementException {
        Issue found = state.findIssue(number);
        if (found == null) {
            throw new NoSuchElementException("there is no such issue");
        }
        return found;
    }

    private Page knownPage(int number, int id) throws NoSuchElementException {
        Page page = knownIssue(number).page;
        if (page.firstLineOf(id) == NONE) {
            throw new NoSuchElementException("the issue does not contain this article");
        }
        return page;
    }

    /** The bits as Float.floatToIntBits gives them, for a value from 0 to below 2. */
    private static int bitsOf(float value) {
        int halvings = 0;
        float scaled = value;
        while (halvings < 126 && scaled < 1.0f) {
            scaled = scaled * 2.0f;
            halvings++;
        }
        if (scaled < 1.0f) {
            // Below the least normal float the exponent bits are 0 and no leading one is hidden.
            return (int) (scaled * 8388608.0f);
        }
        return ((127 - halvings) << 23) | (int) ((scaled - 1.0f) * 8388608.0f);
    }

    private boolean linesKeepWidth(Article checked) {
        if (!lineSetter.arrange(checked, state.columnWidth)) {
            return true;
        }
        for (int line = 0; line < lineSetter.lines; line++) {
            if (lineSetter.lengthOf(line) > state.columnWidth) {
                return false;
            }
        }
        return true;
    }

    private boolean badnessesAgree(Article checked) {
        if (checked.longestWord() > state.columnWidth) {
            return true;
        }
        int backward = evenBreaker.fromLastWord(checked, state.columnWidth);
        return backward == evenBreaker.fromFirstWord(checked, state.columnWidth);
    }

    /** Answers whether the command's call would have thrown nothing. */
    private boolean carryOut(Command command, State next) {
        switch (command.keyword) {
            case WIDTH:
                return next.takeWidth(command.first);
            case PAGE:
                return next.takePage(command.first, command.second);
            case PRINT:
                return next.printIssue(lineSetter);
            case DAYS:
                return next.letDaysPass(command.first);
            case DROP:
                return next.dropArticle(command.first);
            default:
                return false;
        }
    }

    /** A word; it never changes. */
    private static final class Word {
        private final char[] letters;
        private final boolean[] cuts;

        Word(char[] letters) {
            this.letters = letters;
            this.cuts = new boolean[letters.length];
            for (int position = 2; position < letters.length - 1; position++) {
                cuts[position] = isVowel(letters[position - 1]) && !isVowel(letters[position]);
            }
        }

        private static boolean isVowel(char letter) {
            return letter == 'a' || letter == 'e' || letter == 'i' || letter == 'o' || letter == 'u';
        }

        int letterCount() {
            return letters.length;
        }

        boolean hasCutAt(int position) {
            return position >= 0 && position < cuts.length && cuts[position];
        }

        int countCuts() {
            int count = 0;
            for (boolean cut : cuts) {
                if (cut) {
                    count++;
                }
            }
            return count;
        }

        /** The last cut behind start with at most room letters between, or NONE. */
        int lastCut(int start, int room) {
            for (int position = start + room; position > start; position--) {
                if (hasCutAt(position)) {
                    return position;
                }
            }
            return NONE;
        }

        void writeTo(StringBuilder target) {
            for (char letter : letters) {
                target.append(letter);
            }
        }
    }

    /** An article; it never changes: a correction makes another one with the same id. */
    private static final class Article {
        private final int id;
        private final int priority;
        private final Word[] words;

        Article(int id, int priority, Word[] words) {
            this.id = id;
            this.priority = priority;
            this.words = words;
        }

        Article corrected(int number, Word word) {
            Word[] changed = words.clone();
            if (number >= 0 && number < changed.length) {
                changed[number] = word;
            }
            return new Article(id, priority, changed);
        }

        boolean comesBefore(Article other) {
            return priority > other.priority || (priority == other.priority && id < other.id);
        }

        int countLetters() {
            int letters = 0;
            for (Word word : words) {
                letters += word.letterCount();
            }
            return letters;
        }

        int longestWord() {
            int longest = 0;
            for (Word word : words) {
                longest = Math.max(longest, word.letterCount());
            }
            return longest;
        }

        void writeTo(StringBuilder target) {
            target.append(id).append('!').append(priority);
            char before = ':';
            for (Word word : words) {
                target.append(before);
                word.writeTo(target);
                before = ' ';
            }
        }
    }

    /** The page of an issue, with the places that the articles took. */
    private static final class Page {
        private final int columns;
        private final int height;
        private final int[] ids = new int[MOST_ARTICLES];
        private final int[] firstLines = new int[MOST_ARTICLES];
        private int taken = 0;
        private int usedLines = 0;

        Page(int columns, int height) {
            this.columns = columns;
            this.height = height;
        }

        /** Gives the article the next free lines, or leaves it out. */
        void offer(int id, int lines) {
            if (lines > columns * height - usedLines || taken >= ids.length || taken >= firstLines.length) {
                return;
            }
            ids[taken] = id;
            firstLines[taken] = usedLines;
            taken++;
            usedLines += lines;
        }

        int firstLineOf(int id) {
            for (int i = 0; i < taken && i < ids.length && i < firstLines.length; i++) {
                if (ids[i] == id) {
                    return firstLines[i];
                }
            }
            return NONE;
        }

        int columnAt(int line) {
            return height > 0 ? line / height : 0;
        }

        int rowAt(int line) {
            return height > 0 ? line % height : 0;
        }

        float coveredPart() {
            int all = columns * height;
            return all > 0 ? (float) usedLines / (float) all : 0.0f;
        }
    }

    /** An issue on one day; fading makes another one with the same number and page. */
    private static final class Issue {
        private final int number;
        private final Page page;
        private final float freshness;

        Issue(int number, Page page, float freshness) {
            this.number = number;
            this.page = page;
            this.freshness = freshness;
        }

        Issue faded(int days) {
            float left = freshness;
            for (int i = 0; i < days; i++) {
                left = left * 0.75f;
            }
            return new Issue(number, page, left);
        }

        boolean canBeRead() {
            return freshness >= 0.25f;
        }
    }

    /**
     * Everything that changes can change. Only a fresh copy is altered, and no more once it is the current
     * state, so that undo and saving can hold on to former states.
     */
    private static final class State {
        private final ArrayList<Article> articles = new ArrayList<>();
        private final ArrayList<Issue> issues = new ArrayList<>();
        private int nextId = 0;
        private int nextNumber = 0;
        private int columnWidth = 12;
        private int pageColumns = 2;
        private int pageHeight = 8;
        private int today = 0;
        private int lateOnes = 0;

        State copied() {
            State copy = new State();
            for (int i = 0; i < articles.size(); i++) {
                copy.articles.add(articles.get(i));
            }
            for (int i = 0; i < issues.size(); i++) {
                copy.issues.add(issues.get(i));
            }
            copy.nextId = nextId;
            copy.nextNumber = nextNumber;
            copy.columnWidth = columnWidth;
            copy.pageColumns = pageColumns;
            copy.pageHeight = pageHeight;
            copy.today = today;
            copy.lateOnes = lateOnes;
            return copy;
        }

        private int indexOf(int id) {
            for (int i = 0; i < articles.size(); i++) {
                if (articles.get(i).id == id) {
                    return i;
                }
            }
            return NONE;
        }

        Article findArticle(int id) {
            int index = indexOf(id);
            return index >= 0 && index < articles.size() ? articles.get(index) : null;
        }

        Issue findIssue(int number) {
            for (int i = 0; i < issues.size(); i++) {
                Issue issue = issues.get(i);
                if (issue.number == number) {
                    return issue;
                }
            }
            return null;
        }

        /** The article that as many others come before as rank says, or null. */
        Article ranked(int rank) {
            for (int i = 0; i < articles.size(); i++) {
                Article candidate = articles.get(i);
                if (countBefore(candidate) == rank) {
                    return candidate;
                }
            }
            return null;
        }

        private int countBefore(Article candidate) {
            int count = 0;
            for (int i = 0; i < articles.size(); i++) {
                if (articles.get(i).comesBefore(candidate)) {
                    count++;
                }
            }
            return count;
        }

        private boolean isInKeptIssue(int id) {
            for (int i = 0; i < issues.size(); i++) {
                if (issues.get(i).page.firstLineOf(id) != NONE) {
                    return true;
                }
            }
            return false;
        }

        int countReadable() {
            int count = 0;
            for (int i = 0; i < issues.size(); i++) {
                if (issues.get(i).canBeRead()) {
                    count++;
                }
            }
            return count;
        }

        int takeArticle(int priority, Word[] words) {
            int id = nextId;
            articles.add(new Article(id, priority, words));
            nextId++;
            return id;
        }

        boolean dropArticle(int id) {
            int index = indexOf(id);
            if (index < 0 || index >= articles.size()) {
                return false;
            }
            articles.remove(index);
            return true;
        }

        void replaceWord(int id, int number, Word word) {
            int index = indexOf(id);
            if (index < 0 || index >= articles.size()) {
                return;
            }
            articles.set(index, articles.get(index).corrected(number, word));
            if (isInKeptIssue(id)) {
                lateOnes++;
            }
        }

        boolean takeWidth(int width) {
            if (width < LEAST_WIDTH || width > MOST_WIDTH) {
                return false;
            }
            columnWidth = width;
            return true;
        }

        boolean takePage(int columns, int height) {
            if (columns < 1 || columns > MOST_COLUMNS || height < 1 || height > MOST_HEIGHT) {
                return false;
            }
            pageColumns = columns;
            pageHeight = height;
            return true;
        }

        boolean printIssue(LineSetter setter) {
            if (articles.isEmpty()) {
                return false;
            }
            Page page = new Page(pageColumns, pageHeight);
            for (int rank = 0; rank < articles.size(); rank++) {
                Article article = ranked(rank);
                if (article != null && setter.arrange(article, columnWidth)) {
                    page.offer(article.id, setter.lines);
                }
            }
            issues.add(new Issue(nextNumber, page, 1.0f));
            nextNumber++;
            if (issues.size() > MOST_ISSUES) {
                issues.remove(0);
            }
            return true;
        }

        boolean letDaysPass(int days) {
            if (days < 1 || days > MOST_DAYS) {
                return false;
            }
            for (int i = 0; i < issues.size(); i++) {
                issues.set(i, issues.get(i).faded(days));
            }
            today += days;
            return true;
        }
    }

    /** A row of characters with an end. */
    private static final class Buffer {
        private final char[] signs;
        private int length = 0;

        Buffer(int capacity) {
            signs = new char[Math.max(0, capacity)];
        }

        boolean append(char sign) {
            if (length < 0 || length >= signs.length) {
                return false;
            }
            signs[length] = sign;
            length++;
            return true;
        }

        /** Empties the buffer and answers how long it was. */
        int empty() {
            int before = length;
            length = 0;
            return before;
        }

        /** The character at an index, and character 0, which no reader asks for, where there is none. */
        char signAt(int index) {
            return index >= 0 && index < length && index < signs.length ? signs[index] : (char) 0;
        }

        boolean holdsOneWord() {
            return length >= 1 && length <= MOST_LETTERS && countBlanks() == 0;
        }

        /** Tells whether there are words, none too long, with a single blank between two of them. */
        boolean holdsWords() {
            int letters = 0;
            for (int i = 0; i < length; i++) {
                if (signAt(i) != ' ') {
                    letters++;
                } else if (letters == 0) {
                    return false;
                } else {
                    letters = 0;
                }
                if (letters > MOST_LETTERS) {
                    return false;
                }
            }
            return letters > 0;
        }

        private int countBlanks() {
            int count = 0;
            for (int i = 0; i < length; i++) {
                if (signAt(i) == ' ') {
                    count++;
                }
            }
            return count;
        }

        private int endOfWord(int start) {
            int end = start;
            while (end < length && signAt(end) != ' ') {
                end++;
            }
            return end;
        }

        Word[] cutIntoWords() {
            Word[] words = new Word[countBlanks() + 1];
            int start = 0;
            for (int i = 0; i < words.length; i++) {
                int end = endOfWord(start);
                words[i] = wordBetween(start, end);
                start = end + 1;
            }
            return words;
        }

        Word wordBetween(int start, int end) {
            char[] letters = new char[Math.max(0, end - start)];
            for (int i = 0; i < letters.length; i++) {
                letters[i] = signAt(start + i);
            }
            return new Word(letters);
        }
    }

    /** Sets an article into lines and holds them until the next one is set. */
    private static final class LineSetter {
        // Each line holds a letter at least, and has at most a hyphen beside its letters and blanks.
        private static final int MOST_LINES = MOST_WORDS * MOST_LETTERS;
        private final char[] signs = new char[MOST_LINES + MOST_LINES + MOST_WORDS];
        private final int[] ends = new int[MOST_LINES];
        private int used = 0;
        private int lines = 0;
        private int columnWidth = 0;

        /** Answers whether the article can be set; only then the lines are of use. */
        boolean arrange(Article article, int width) {
            used = 0;
            lines = 0;
            columnWidth = width;
            for (Word word : article.words) {
                if (!place(word)) {
                    return false;
                }
            }
            closeLine();
            return true;
        }

        private boolean place(Word word) {
            int start = 0;
            // A turn that puts no letters leaves an empty line to the next turn, which puts some or gives up.
            for (int turn = 0; turn < 2 * MOST_LETTERS; turn++) {
                boolean onEmptyLine = used == startOf(lines);
                int room = columnWidth - (used - startOf(lines)) - (onEmptyLine ? 0 : 1);
                if (word.letterCount() - start <= room) {
                    putPart(word, start, word.letterCount());
                    return true;
                }
                int cut = word.lastCut(start, room - 1);
                if (cut != NONE) {
                    putPart(word, start, cut);
                    putSign('-');
                    start = cut;
                } else if (onEmptyLine) {
                    return false;
                }
                closeLine();
            }
            return false;
        }

        private void putPart(Word word, int start, int end) {
            if (used > startOf(lines)) {
                putSign(' ');
            }
            for (int i = start; i < end && i < word.letters.length; i++) {
                putSign(word.letters[i]);
            }
        }

        private void putSign(char sign) {
            if (used < signs.length) {
                signs[used] = sign;
                used++;
            }
        }

        private void closeLine() {
            if (lines < ends.length) {
                ends[lines] = used;
                lines++;
            }
        }

        private int startOf(int line) {
            return line >= 1 && line <= ends.length ? ends[line - 1] : 0;
        }

        private int endOf(int line) {
            return line >= 0 && line < ends.length ? ends[line] : used;
        }

        int lengthOf(int line) {
            return endOf(line) - startOf(line);
        }

        int countHyphens() {
            int count = 0;
            for (int line = 0; line < lines; line++) {
                int last = endOf(line) - 1;
                if (last >= 0 && last < signs.length && signs[last] == '-') {
                    count++;
                }
            }
            return count;
        }

        void writeTo(StringBuilder target, int line) {
            int end = endOf(line);
            for (int i = startOf(line); i < end && i < signs.length; i++) {
                target.append(signs[i]);
            }
        }
    }

    /** Finds the least badness of an article whose words all fit, by two methods. */
    private static final class EvenBreaker {
        private static final int TOO_MUCH = 1000000;
        private final int[] least = new int[MOST_WORDS + 1];

        int fromLastWord(Article article, int width) {
            int count = Math.min(article.words.length, MOST_WORDS);
            least[count] = 0;
            for (int first = count - 1; first >= 0; first--) {
                least[first] = leastBehind(article, width, first);
            }
            return least[0];
        }

        /** The least badness of the lines that hold the word number first and all words behind it. */
        private int leastBehind(Article article, int width, int first) {
            int count = Math.min(article.words.length, MOST_WORDS);
            int best = TOO_MUCH;
            int length = NONE;
            for (int last = first; last < count; last++) {
                length += 1 + article.words[last].letterCount();
                if (length > width) {
                    break;
                }
                int own = last == count - 1 ? 0 : square(width - length);
                best = Math.min(best, own + least[last + 1]);
            }
            return best;
        }

        int fromFirstWord(Article article, int width) {
            int count = Math.min(article.words.length, MOST_WORDS);
            least[0] = 0;
            for (int end = 1; end <= count; end++) {
                least[end] = leastBefore(article, width, end);
            }
            return least[count];
        }

        /** The least badness of the lines that hold the words before the word number end. */
        private int leastBefore(Article article, int width, int end) {
            int count = Math.min(article.words.length, MOST_WORDS);
            int best = TOO_MUCH;
            int length = NONE;
            for (int first = end - 1; first >= 0; first--) {
                length += 1 + article.words[first].letterCount();
                if (length > width) {
                    break;
                }
                int own = end == count ? 0 : square(width - length);
                best = Math.min(best, own + least[first]);
            }
            return best;
        }

        private static int square(int number) {
            return number * number;
        }
    }

    /** The beginnings of commands, and how many numbers follow them. */
    private enum Keyword {
        WIDTH("width ", 1),
        PAGE("page ", 2),
        PRINT("print", 0),
        DAYS("days ", 1),
        DROP("drop ", 1);

        private final String letters;
        private final int numbers;

        Keyword(String letters, int numbers) {
            this.letters = letters;
            this.numbers = numbers;
        }

        /** How many of its letters stand in the buffer from start on. */
        int countShared(Buffer buffer, int start) {
            int shared = 0;
            while (shared < letters.length() && buffer.signAt(start + shared) == letters.charAt(shared)) {
                shared++;
            }
            return shared;
        }
    }

    /** A well-formed command with its numbers, 0 for those that it does not have. */
    private static final class Command {
        private final Keyword keyword;
        private final int first;
        private final int second;

        Command(Keyword keyword, int first, int second) {
            this.keyword = keyword;
            this.first = first;
            this.second = second;
        }
    }

    /** Reads commands; where they are malformed, it stops at the error position. */
    private static final class CommandReader {
        private final ArrayList<Command> commands = new ArrayList<>();
        private int position = 0;

        boolean readAll(Buffer buffer) {
            commands.clear();
            position = 0;
            // Each turn reads a character at least.
            for (int turn = 0; turn <= buffer.length; turn++) {
                if (!readCommand(buffer)) {
                    return false;
                }
                if (position == buffer.length) {
                    return true;
                }
                if (!readSign(buffer, ';')) {
                    return false;
                }
            }
            return false;
        }

        private boolean readCommand(Buffer buffer) {
            Keyword keyword = bestKeyword(buffer);
            int shared = keyword.countShared(buffer, position);
            position += shared;
            if (shared < keyword.letters.length()) {
                return false;
            }
            int first = keyword.numbers >= 1 ? readNumber(buffer) : 0;
            if (first == NONE || (keyword.numbers >= 2 && !readSign(buffer, '*'))) {
                return false;
            }
            int second = keyword.numbers >= 2 ? readNumber(buffer) : 0;
            if (second == NONE) {
                return false;
            }
            commands.add(new Command(keyword, first, second));
            return true;
        }

        /** The keyword that the buffer goes on with, or the one that it keeps to for longest. */
        private Keyword bestKeyword(Buffer buffer) {
            Keyword best = Keyword.WIDTH;
            for (Keyword keyword : KEYWORDS) {
                if (keyword.countShared(buffer, position) > best.countShared(buffer, position)) {
                    best = keyword;
                }
            }
            return best;
        }

        private boolean readSign(Buffer buffer, char sign) {
            if (buffer.signAt(position) != sign) {
                return false;
            }
            position++;
            return true;
        }

        /** The number of one or two digits, or NONE if there is no digit. */
        private int readNumber(Buffer buffer) {
            int number = NONE;
            for (int digits = 0; digits < 2; digits++) {
                char sign = buffer.signAt(position);
                if (sign < '0' || sign > '9') {
                    break;
                }
                number = Math.max(number, 0) * 10 + (sign - '0');
                position++;
            }
            return number;
        }
    }
}
