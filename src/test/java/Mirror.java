import java.util.ArrayDeque;
import java.util.ArrayList;
import java.util.Comparator;
import java.util.List;
import java.util.NoSuchElementException;
import java.util.TreeMap;
import java.util.regex.Matcher;
import java.util.regex.Pattern;

/** A second newspaper, written from the document with other means, to compare answers with. */
final class Mirror {
    private static final String COMMAND = "(?:width [0-9]{1,2}|page [0-9]{1,2}\\*[0-9]{1,2}|print|days [0-9]{1,2}|drop [0-9]{1,2})";
    private static final Pattern COMMANDS = Pattern.compile(COMMAND + "(?:;" + COMMAND + ")*", Pattern.DOTALL);
    private static final Pattern ARTICLE_TEXT = Pattern.compile("[a-z]{1,12}(?: [a-z]{1,12})*");

    private static final class Paper {
        int rank;
        List<String> words = new ArrayList<>();
    }

    private static final class Sheet {
        int columns;
        int height;
        int lines = 0;
        float fresh = 1.0f;
        TreeMap<Integer, Integer> begins = new TreeMap<>();
    }

    private static final class All {
        TreeMap<Integer, Paper> papers = new TreeMap<>();
        TreeMap<Integer, Sheet> sheets = new TreeMap<>();
        int nextPaper = 0;
        int nextSheet = 0;
        int wide = 12;
        int columns = 2;
        int height = 8;
        int days = 0;
        int late = 0;

        All copy() {
            All copy = new All();
            papers.forEach((id, paper) -> {
                Paper other = new Paper();
                other.rank = paper.rank;
                other.words.addAll(paper.words);
                copy.papers.put(id, other);
            });
            sheets.forEach((number, sheet) -> {
                Sheet other = new Sheet();
                other.columns = sheet.columns;
                other.height = sheet.height;
                other.lines = sheet.lines;
                other.fresh = sheet.fresh;
                other.begins.putAll(sheet.begins);
                copy.sheets.put(number, other);
            });
            copy.nextPaper = nextPaper;
            copy.nextSheet = nextSheet;
            copy.wide = wide;
            copy.columns = columns;
            copy.height = height;
            copy.days = days;
            copy.late = late;
            return copy;
        }
    }

    private All all = new All();
    private All kept = null;
    private final ArrayDeque<All> earlier = new ArrayDeque<>();
    private String typed = "";
    private String fed = "";
    private String written = "";
    private Integer error = null;
    private Integer failed = null;

    private void changed(All before) {
        earlier.addLast(before);
        while (earlier.size() > 8) {
            earlier.removeFirst();
        }
    }

    private Paper paper(int id) {
        if (!all.papers.containsKey(id)) {
            throw new NoSuchElementException();
        }
        return all.papers.get(id);
    }

    private String word(int id, int number) {
        List<String> words = paper(id).words;
        if (number < 0 || number >= words.size()) {
            throw new IndexOutOfBoundsException();
        }
        return words.get(number);
    }

    private Sheet sheet(int number) {
        if (!all.sheets.containsKey(number)) {
            throw new NoSuchElementException();
        }
        return all.sheets.get(number);
    }

    private static boolean divides(String word, int position) {
        return position >= 2 && word.length() - position >= 2
            && word.substring(position - 1, position + 1).matches("[aeiou][^aeiou]");
    }

    /** The lines of an article, or null if it cannot be set. */
    private static List<String> set(List<String> words, int width) {
        List<String> lines = new ArrayList<>();
        String line = "";
        for (String word : words) {
            int begin = 0;
            while (true) {
                String start = line.isEmpty() ? "" : line + " ";
                String whole = start + word.substring(begin);
                if (whole.length() <= width) {
                    line = whole;
                    break;
                }
                int cut = -1;
                for (int p = begin + 1; p < word.length(); p++) {
                    if (divides(word, p) && (start + word.substring(begin, p) + "-").length() <= width) {
                        cut = p;
                    }
                }
                if (cut >= 0) {
                    lines.add(start + word.substring(begin, cut) + "-");
                    begin = cut;
                } else if (line.isEmpty()) {
                    return null;
                } else {
                    lines.add(line);
                }
                line = "";
            }
        }
        lines.add(line);
        return lines;
    }

    private List<String> lines(int id) {
        List<String> lines = set(paper(id).words, all.wide);
        if (lines == null) {
            throw new UnsupportedOperationException();
        }
        return lines;
    }

    private String line(int id, int number) {
        List<String> lines = lines(id);
        if (number < 0 || number >= lines.size()) {
            throw new IndexOutOfBoundsException();
        }
        return lines.get(number);
    }

    private static Integer badness(List<String> words, int from, int width, Integer[] known) {
        if (known[from] != null) {
            return known[from];
        }
        int least = Integer.MAX_VALUE;
        for (int to = from + 1; to <= words.size(); to++) {
            int length = String.join(" ", words.subList(from, to)).length();
            if (length <= width) {
                int sum = to == words.size() ? 0 : (width - length) * (width - length) + badness(words, to, width, known);
                least = Math.min(least, sum);
            }
        }
        known[from] = least;
        return least;
    }

    private void drop(int id) {
        if (all.papers.remove(id) == null) {
            throw new NoSuchElementException();
        }
    }

    private List<Integer> considered() {
        List<Integer> ids = new ArrayList<>(all.papers.keySet());
        ids.sort(Comparator.comparing((Integer id) -> -all.papers.get(id).rank).thenComparing(id -> id));
        return ids;
    }

    private void doWidth(int width) {
        if (width < 4 || width > 20) {
            throw new IllegalArgumentException();
        }
        all.wide = width;
    }

    private void doPage(int columns, int height) {
        if (columns < 1 || columns > 4 || height < 1 || height > 20) {
            throw new IllegalArgumentException();
        }
        all.columns = columns;
        all.height = height;
    }

    private int doPrint() {
        if (all.papers.isEmpty()) {
            throw new IllegalStateException();
        }
        Sheet sheet = new Sheet();
        sheet.columns = all.columns;
        sheet.height = all.height;
        for (int id : considered()) {
            List<String> lines = set(all.papers.get(id).words, all.wide);
            if (lines != null && sheet.lines + lines.size() <= sheet.columns * sheet.height) {
                sheet.begins.put(id, sheet.lines);
                sheet.lines += lines.size();
            }
        }
        all.sheets.put(all.nextSheet, sheet);
        if (all.sheets.size() > 4) {
            all.sheets.pollFirstEntry();
        }
        return all.nextSheet++;
    }

    private int doDays(int days) {
        if (days < 1 || days > 30) {
            throw new IllegalArgumentException();
        }
        int lost = 0;
        for (int i = 0; i < days; i++) {
            all.days++;
            for (Sheet sheet : all.sheets.values()) {
                boolean before = sheet.fresh >= 0.25f;
                sheet.fresh *= 0.75f;
                lost += before && !(sheet.fresh >= 0.25f) ? 1 : 0;
            }
        }
        return lost;
    }

    private int runCommands() {
        String commands = fed;
        fed = "";
        Matcher matcher = COMMANDS.matcher(commands);
        if (!matcher.matches()) {
            int length = 0;
            while (length < commands.length() && canContinue(commands.substring(0, length + 1))) {
                length++;
            }
            error = length;
            throw new IllegalArgumentException();
        }
        All before = all.copy();
        String[] single = commands.split(";");
        for (int i = 0; i < single.length; i++) {
            try {
                runCommand(single[i]);
            } catch (RuntimeException e) {
                all = before;
                failed = i;
                throw new UnsupportedOperationException();
            }
        }
        changed(before);
        return single.length;
    }

    private static boolean canContinue(String prefix) {
        Matcher matcher = COMMANDS.matcher(prefix);
        return matcher.matches() || matcher.hitEnd();
    }

    private void runCommand(String command) {
        String[] parts = command.split("[ *]");
        if (parts[0].equals("width")) {
            doWidth(Integer.parseInt(parts[1]));
        } else if (parts[0].equals("page")) {
            doPage(Integer.parseInt(parts[1]), Integer.parseInt(parts[2]));
        } else if (parts[0].equals("print")) {
            doPrint();
        } else if (parts[0].equals("days")) {
            doDays(Integer.parseInt(parts[1]));
        } else {
            drop(Integer.parseInt(parts[1]));
        }
    }

    /** The ids of the articles and the numbers of the issues that there are. */
    List<Integer> known() {
        List<Integer> known = new ArrayList<>(all.papers.keySet());
        known.addAll(all.sheets.keySet());
        return known;
    }

    /** Answers one call of the face by its name, as a box of the type that it has there. */
    Object answer(String call, int a, int b, int c) {
        Object changing = answerChange(call, a, b);
        if (changing != null) {
            return changing;
        }
        Object ofArticle = answerArticle(call, a, b, c);
        return ofArticle != null ? ofArticle : answerOther(call, a, b);
    }

    private Object answerChange(String call, int a, int b) {
        All before = all.copy();
        Integer result;
        switch (call) {
            case "addArticle":
                result = addPaper(a);
                break;
            case "removeArticle":
                drop(a);
                result = all.papers.size();
                break;
            case "correct":
                String former = word(a, b);
                if (!typed.matches("[a-z]{1,12}")) {
                    throw new UnsupportedOperationException();
                }
                paper(a).words.set(b, typed);
                typed = "";
                all.late += all.sheets.values().stream().anyMatch(sheet -> sheet.begins.containsKey(a)) ? 1 : 0;
                result = former.length();
                break;
            case "setWidth":
                doWidth(a);
                result = before.wide;
                break;
            case "setPage":
                doPage(a, b);
                result = a * b;
                break;
            case "print":
                result = doPrint();
                break;
            case "passDays":
                result = doDays(a);
                break;
            default:
                return null;
        }
        changed(before);
        return result;
    }

    private int addPaper(int rank) {
        if (rank < 1 || rank > 9) {
            throw new IllegalArgumentException();
        }
        if (all.papers.size() == 6) {
            throw new IllegalStateException();
        }
        if (!ARTICLE_TEXT.matcher(typed).matches()) {
            throw new UnsupportedOperationException();
        }
        Paper paper = new Paper();
        paper.rank = rank;
        paper.words.addAll(List.of(typed.split(" ")));
        typed = "";
        all.papers.put(all.nextPaper, paper);
        return all.nextPaper++;
    }

    private Object answerArticle(String call, int a, int b, int c) {
        switch (call) {
            case "priority": return paper(a).rank;
            case "wordCount": return paper(a).words.size();
            case "wordLength": return word(a, b).length();
            case "divisions":
                int count = 0;
                for (int p = 0; p <= word(a, b).length(); p++) {
                    count += divides(word(a, b), p) ? 1 : 0;
                }
                return count;
            case "canDivide": return divides(word(a, b), c);
            case "canBeSet": return set(paper(a).words, all.wide) != null;
            case "lineCount": return lines(a).size();
            case "lineLength": return line(a, b).length();
            case "hyphenCount": return (int) lines(a).stream().filter(line -> line.endsWith("-")).count();
            case "writeLine":
                written = line(a, b);
                return written.length();
            case "smallestWidth":
                int width = 4;
                while (set(paper(a).words, width) == null) {
                    width++;
                }
                return width;
            case "leastBadness":
            case "leastBadnessForward":
                List<String> words = paper(a).words;
                if (words.stream().anyMatch(word -> word.length() > all.wide)) {
                    throw new UnsupportedOperationException();
                }
                return badness(words, 0, all.wide, new Integer[words.size()]);
            case "writeArticle":
                written = a + "!" + paper(a).rank + ":" + String.join(" ", paper(a).words);
                return written.length();
            case "article": return at(new ArrayList<>(all.papers.keySet()), a);
            case "articleByPriority": return at(considered(), a);
            default: return null;
        }
    }

    private static Integer at(List<Integer> ids, int position) {
        if (position < 0 || position >= ids.size()) {
            throw new IndexOutOfBoundsException();
        }
        return ids.get(position);
    }

    private static int begin(Sheet sheet, int id) {
        if (!sheet.begins.containsKey(id)) {
            throw new NoSuchElementException();
        }
        return sheet.begins.get(id);
    }

    private Object answerIssue(String call, int a, int b) {
        Sheet sheet = sheet(a);
        switch (call) {
            case "articlesIn": return sheet.begins.size();
            case "linesIn": return sheet.lines;
            case "columnOf": return begin(sheet, b) / sheet.height;
            case "rowOf": return begin(sheet, b) % sheet.height;
            case "coverage": return (float) sheet.lines / (float) (sheet.columns * sheet.height);
            case "freshness": return sheet.fresh;
            case "freshnessBits": return Float.floatToIntBits(sheet.fresh);
            case "isReadable": return sheet.fresh >= 0.25f;
            default:
                int days = 0;
                for (float fresh = sheet.fresh; fresh >= 0.25f; fresh *= 0.75f) {
                    days++;
                }
                return days;
        }
    }

    private Object answerOther(String call, int a, int b) {
        switch (call) {
            case "type":
                if (a != ' ' && (a < 'a' || a > 'z')) {
                    throw new IllegalArgumentException();
                }
                require(typed.length() < 60);
                typed += (char) a;
                return typed.length();
            case "clearText":
                int length = typed.length();
                typed = "";
                return length;
            case "feed":
                require(fed.length() < 60);
                fed += (char) a;
                return fed.length();
            case "execute": return runCommands();
            case "articleCount": return all.papers.size();
            case "lateCorrections": return all.late;
            case "width": return all.wide;
            case "issueCount": return all.sheets.size();
            case "isKept": return all.sheets.containsKey(a);
            case "day": return all.days;
            case "meanWordLength":
                List<String> words = new ArrayList<>();
                all.papers.values().forEach(paper -> words.addAll(paper.words));
                if (words.isEmpty()) {
                    throw new ArithmeticException();
                }
                return (double) String.join("", words).length() / (double) words.size();
            case "meanFreshness":
                if (all.sheets.isEmpty()) {
                    throw new ArithmeticException();
                }
                float sum = 0.0f;
                for (Sheet sheet : all.sheets.values()) {
                    sum += sheet.fresh;
                }
                return sum / (float) all.sheets.size();
            case "outputCharacter":
                if (a < 0 || a >= written.length()) {
                    throw new IndexOutOfBoundsException();
                }
                return written.charAt(a);
            case "isConsistent": return true;
            default: return answerKept(call, a, b);
        }
    }

    private Object answerKept(String call, int a, int b) {
        switch (call) {
            case "errorPosition": return present(error);
            case "failedCommand": return present(failed);
            case "undo":
                require(!earlier.isEmpty());
                all = earlier.removeLast();
                return earlier.size();
            case "undoCount": return earlier.size();
            case "save":
                kept = all.copy();
                return all.papers.size();
            case "restore":
                require(kept != null);
                all = kept.copy();
                earlier.clear();
                return all.papers.size();
            default: return answerIssue(call, a, b);
        }
    }

    private static void require(boolean condition) {
        if (!condition) {
            throw new IllegalStateException();
        }
    }

    private static Integer present(Integer number) {
        if (number == null) {
            throw new NoSuchElementException();
        }
        return number;
    }
}
