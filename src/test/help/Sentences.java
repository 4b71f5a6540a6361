import java.io.IOException;
import java.nio.file.Files;
import java.nio.file.Path;
import java.util.ArrayList;
import java.util.LinkedHashMap;
import java.util.List;
import java.util.Map;
import java.util.NoSuchElementException;

/**
 * Holds a test to the words of the document: the test quotes each sentence of a section ahead of the checks of it. A
 * quote that does not stand there, a quote without a check, and a sentence that is not quoted count as wrong.
 */
abstract class Sentences {
    static final int NONE = Parserpark.NONE;
    static final int MIN = Integer.MIN_VALUE;
    static final int MAX = Integer.MAX_VALUE;
    static final Class<?> ARGUMENT = IllegalArgumentException.class;
    static final Class<?> STATE = IllegalStateException.class;
    static final Class<?> INDEX = IndexOutOfBoundsException.class;
    static final Class<?> ELEMENT = NoSuchElementException.class;
    static final Class<?> UNSUPPORTED = UnsupportedOperationException.class;
    static final Class<?> ARITHMETIC = ArithmeticException.class;

    private static final Path DOCUMENT = Path.of("..", "shared", "DOC.md");
    private static final Map<String, String> SECTIONS = new LinkedHashMap<>();
    private static final Map<String, boolean[]> QUOTED = new LinkedHashMap<>();
    private static final List<String> VISITED = new ArrayList<>();

    private static String section = "";
    private static String quote = "";
    private static int checks = 0;
    private static int checksBefore = 0;
    private static int quotes = 0;
    private static int wrong = 0;

    interface Call {
        Object answer();
    }

    interface NumberCall {
        Object answer(Parserpark x, int number);
    }

    // ---- the document

    static void readDocument() throws IOException {
        String heading = "";
        for (String line : Files.readAllLines(DOCUMENT)) {
            if (line.startsWith("## ")) {
                heading = line.substring(3).trim();
            } else {
                SECTIONS.merge(heading, line, (before, more) -> before + " " + more);
            }
        }
        for (Map.Entry<String, String> entry : SECTIONS.entrySet()) {
            entry.setValue(entry.getValue().trim().replaceAll("\\s+", " "));
            QUOTED.put(entry.getKey(), new boolean[entry.getValue().length()]);
        }
    }

    /** All of this section's sentences are to be quoted by this test. */
    static void section(String heading) {
        partOfSection(heading);
        VISITED.add(heading);
    }

    static void partOfSection(String heading) {
        endQuote();
        quote = "";
        section = heading;
        if (!SECTIONS.containsKey(heading)) {
            complain("there is no such section");
        }
    }

    /** The section of a promise; its first words, up to the colon behind the face, are another test's. */
    static void promise(int number) {
        String prefix = "Promise " + number + ":";
        for (String heading : SECTIONS.keySet()) {
            if (heading.startsWith(prefix)) {
                section(heading);
                String text = SECTIONS.get(heading);
                mark(0, text.indexOf("`: ") + 1);
                return;
            }
        }
        section(prefix);
    }

    /** The checks of this sentence follow. */
    static void says(String sentence) {
        endQuote();
        quote = sentence;
        quotes++;
        checksBefore = checks;
        find(sentence);
    }

    /** A sentence that needs no check of its own. */
    static void tells(String sentence) {
        endQuote();
        quote = "";
        find(sentence);
    }

    private static void endQuote() {
        if (!quote.isEmpty() && checks == checksBefore) {
            complain("nothing is checked");
        }
    }

    private static void find(String sentence) {
        String text = SECTIONS.getOrDefault(section, "");
        boolean[] quoted = QUOTED.getOrDefault(section, new boolean[0]);
        int at = text.indexOf(sentence);
        while (at >= 0 && quoted[at]) {
            at = text.indexOf(sentence, at + 1);
        }
        if (at < 0) {
            complain("the document does not say: " + sentence);
        } else {
            mark(at, at + sentence.length());
        }
    }

    private static void mark(int from, int end) {
        boolean[] quoted = QUOTED.get(section);
        for (int i = from; i < end; i++) {
            quoted[i] = true;
        }
    }

    private static void lookForUnquoted(String heading) {
        String text = SECTIONS.getOrDefault(heading, "");
        StringBuilder left = new StringBuilder();
        for (int i = 0; i < text.length(); i++) {
            left.append(QUOTED.get(heading)[i] ? ' ' : text.charAt(i));
        }
        if (!left.toString().matches("[^a-zA-Z0-9]*")) {
            section = heading;
            complain("not quoted: " + left.toString().trim().replaceAll("\\s+", " "));
        }
    }

    /** Prints what was wrong with the whole, and ends with exit code 1 if anything was. */
    static void end() {
        endQuote();
        quote = "";
        for (String heading : VISITED) {
            lookForUnquoted(heading);
        }
        System.out.println(quotes + " sentences, " + checks + " checks, " + wrong + " wrong");
        if (wrong != 0) {
            System.exit(1);
        }
    }

    // ---- checks

    private static void complain(String what) {
        wrong++;
        System.out.println(section + (quote.isEmpty() ? "" : ", \"" + quote + "\"") + ": " + what);
    }

    static Object answerOf(Call call) {
        try {
            return call.answer();
        } catch (RuntimeException e) {
            return e.getClass();
        }
    }

    static void due(Object want, Call call) {
        Object got = answerOf(call);
        checks++;
        if (!want.equals(got)) {
            int line = 0;
            for (StackTraceElement at : new Throwable().getStackTrace()) {
                if (line == 0 && !at.getClassName().equals("Sentences")) {
                    line = at.getLineNumber();
                }
            }
            complain("line " + line + ": answered " + got + ", due is " + want);
        }
    }

    // ---- what the tests make and ask

    static Parserpark grammar(int[]... rules) {
        Parserpark x = new Parserpark();
        for (int[] rule : rules) {
            x.addRule(rule[0], rule[1], rule[2], rule[3]);
        }
        return x;
    }

    /** A rule by its left side and its right one. */
    static int[] rule(int left, int... right) {
        int[] rule = {left, NONE, NONE, NONE};
        System.arraycopy(right, 0, rule, 1, right.length);
        return rule;
    }

    static int add(Parserpark x, int left, int... right) {
        int[] rule = rule(left, right);
        return x.addRule(rule[0], rule[1], rule[2], rule[3]);
    }

    /** A text with these letters, 'a' for 0 and so on. */
    static int text(Parserpark x, String letters) {
        int number = x.addText(letters.charAt(0) - 'a');
        for (int i = 1; i < letters.length(); i++) {
            x.addLetter(number, letters.charAt(i) - 'a');
        }
        return number;
    }

    static String letters(Parserpark x, int text) {
        StringBuilder letters = new StringBuilder();
        for (int i = 0; i < x.length(text); i++) {
            letters.append((char) ('a' + x.letterAt(text, i)));
        }
        return letters.toString();
    }

    /** The rules of the chosen tree in their order. */
    static String row(Parserpark x, int text) {
        StringBuilder row = new StringBuilder();
        int size = x.size(text);
        for (int i = 0; i < size; i++) {
            row.append(i == 0 ? "" : " ").append(x.ruleAt(text, i));
        }
        return row.toString();
    }

    static String form(Parserpark x, int text) {
        StringBuilder form = new StringBuilder();
        int signs = x.formatted(text);
        for (int i = 0; i < signs; i++) {
            form.append(x.formattedAt(text, i));
        }
        return form.toString();
    }

    static String colours(Parserpark x, int text) {
        StringBuilder colours = new StringBuilder();
        int length = x.length(text);
        for (int i = 0; i < length; i++) {
            colours.append(x.colourAt(text, i));
        }
        return colours.toString();
    }

    /** The numbers of trees of a name over all spans. */
    static String numbers(Parserpark x, int text, int name) {
        StringBuilder numbers = new StringBuilder();
        int length = x.length(text);
        for (int from = 0; from < length; from++) {
            for (int to = from; to < length; to++) {
                numbers.append(x.treesOver(text, name, from, to)).append(' ');
            }
        }
        return numbers.toString();
    }

    /** How much work a call makes. */
    static long workOf(Parserpark x, Call call) {
        long before = x.work();
        answerOf(call);
        return x.work() - before;
    }

    static String repeat(char letter, int times) {
        return String.valueOf(letter).repeat(times);
    }
}
