import java.lang.reflect.Field;
import java.util.NoSuchElementException;

/** For each promise of the document: ordinary inputs, the edges that it names, and wrong inputs. */
public final class ParserparkPromises {
    private static final int NONE = Parserpark.NONE;
    private static final Class<?> ARGUMENT = IllegalArgumentException.class;
    private static final Class<?> STATE = IllegalStateException.class;
    private static final Class<?> INDEX = IndexOutOfBoundsException.class;
    private static final Class<?> ELEMENT = NoSuchElementException.class;
    private static final Class<?> UNSUPPORTED = UnsupportedOperationException.class;
    private static final Class<?> ARITHMETIC = ArithmeticException.class;

    private static int checks = 0;
    private static int wrong = 0;
    private static String promise = "";

    private interface Call {
        Object answer();
    }

    public static void main(String[] args) {
        newObject();
        addRule();
        dropRule();
        setRank();
        setStyle();
        rules();
        addText();
        addLetter();
        replace();
        lengthAndLetterAt();
        trees();
        treesByTrying();
        treesOver();
        sizeAndRuleAt();
        chosenTreeOrder();
        depth();
        colourAt();
        formatted();
        accept();
        fault();
        release();
        ambiguous();
        ambiguousAt();
        work();
        cleanShare();
        meanTrees();
        isSound();
        largestTree();
        System.out.println(checks + " checks of promises, " + wrong + " wrong");
        if (wrong != 0) {
            System.exit(1);
        }
    }

    private static void due(Object want, Call call) {
        Object got;
        try {
            got = call.answer();
        } catch (RuntimeException e) {
            got = e.getClass();
        }
        checks++;
        if (!want.equals(got)) {
            wrong++;
            StackTraceElement at = new Throwable().getStackTrace()[1];
            System.out.println(promise + ", line " + at.getLineNumber() + ": answered " + got + ", due is " + want);
        }
    }

    /** A text with these letters, 'a' for 0 and so on. */
    private static int text(Parserpark x, String letters) {
        int number = x.addText(letters.charAt(0) - 'a');
        for (int i = 1; i < letters.length(); i++) {
            x.addLetter(number, letters.charAt(i) - 'a');
        }
        return number;
    }

    /** The rules of the chosen tree in their order. */
    private static String row(Parserpark x, int text) {
        StringBuilder row = new StringBuilder();
        for (int i = 0; i < x.size(text); i++) {
            row.append(i == 0 ? "" : " ").append(x.ruleAt(text, i));
        }
        return row.toString();
    }

    private static String form(Parserpark x, int text) {
        StringBuilder form = new StringBuilder();
        for (int i = 0; i < x.formatted(text); i++) {
            form.append(x.formattedAt(text, i));
        }
        return form.toString();
    }

    private static String colours(Parserpark x, int text) {
        StringBuilder colours = new StringBuilder();
        for (int i = 0; i < x.length(text); i++) {
            colours.append(x.colourAt(text, i));
        }
        return colours.toString();
    }

    /** 10 becomes a letter 0, or two or three of 10 side by side. */
    private static Parserpark pairsAndTriples() {
        Parserpark x = new Parserpark();
        x.addRule(10, 0, NONE, NONE);
        x.addRule(10, 10, 10, NONE);
        x.addRule(10, 10, 10, 10);
        return x;
    }

    private static void newObject() {
        promise = "1 A new object";
        Parserpark x = new Parserpark();
        due(0, () -> x.rules());
        due(0L, () -> x.work());
        due(INDEX, () -> x.length(0));
        due(ELEMENT, () -> x.dropRule(0));
        due(STATE, () -> x.release());
        due(true, () -> x.isSound());
        due(-1, () -> Parserpark.NONE);
        due(0, () -> x.addText(0));
        due(0, () -> x.addRule(10, 0, NONE, NONE));
    }

    private static void addRule() {
        promise = "2 addRule";
        Parserpark x = new Parserpark();
        int[][] refused = {
            {9, 0, NONE, NONE}, {15, 0, NONE, NONE}, {0, 0, NONE, NONE}, {NONE, 0, NONE, NONE},
            {10, 8, NONE, NONE}, {10, 9, NONE, NONE}, {10, 15, NONE, NONE}, {10, NONE, NONE, NONE},
            {10, -2, NONE, NONE}, {10, NONE, 0, 0}, {10, 0, 8, NONE}, {10, 0, 9, NONE}, {10, 0, 15, NONE},
            {10, 0, -2, NONE}, {10, 0, 0, 8}, {10, 0, 0, 9}, {10, 0, 0, 15}, {10, 0, 0, -2},
            {10, 0, NONE, 0}, {10, 11, NONE, 0}, {10, 10, NONE, NONE}, {12, 11, NONE, NONE}, {14, 14, NONE, NONE},
            {Integer.MIN_VALUE, 0, NONE, NONE}, {10, Integer.MAX_VALUE, NONE, NONE}, {10, 0, Integer.MIN_VALUE, NONE},
        };
        for (int[] rule : refused) {
            due(ARGUMENT, () -> x.addRule(rule[0], rule[1], rule[2], rule[3]));
        }
        due(0, () -> x.rules());
        int[][] taken = {
            {10, 0, NONE, NONE}, {14, 7, NONE, NONE}, {10, 11, NONE, NONE}, {13, 14, NONE, NONE}, {10, 14, NONE, NONE},
            {10, 10, 10, NONE}, {14, 10, 10, 10}, {12, 11, 7, NONE}, {10, 0, 14, 7}, {10, 0, NONE, NONE},
            {14, 14, 14, NONE}, {11, 7, 7, 7},
        };
        for (int i = 0; i < taken.length; i++) {
            int number = i;
            due(number, () -> x.addRule(taken[number][0], taken[number][1], taken[number][2], taken[number][3]));
        }
        due(STATE, () -> x.addRule(10, 0, NONE, NONE));
        due(ARGUMENT, () -> x.addRule(10, 8, NONE, NONE));
        x.dropRule(3);
        due(STATE, () -> x.addRule(10, 0, NONE, NONE));
        due(11, () -> x.rules());
        Parserpark y = new Parserpark();
        text(y, "ab");
        due(0, () -> y.trees(0));
        due(0, () -> y.addRule(10, 0, 1, NONE));
        due(1, () -> y.trees(0));
        due(1, () -> y.addRule(10, 0, 1, NONE));
        due(2, () -> y.trees(0));
    }

    private static void dropRule() {
        promise = "3 dropRule";
        Parserpark x = new Parserpark();
        x.addRule(10, 0, 1, NONE);
        x.addRule(10, 11, 11, NONE);
        x.addRule(11, 0, NONE, NONE);
        x.addRule(10, 2, NONE, NONE);
        text(x, "ab");
        text(x, "aa");
        text(x, "bcba");
        due(ELEMENT, () -> x.dropRule(-1));
        due(ELEMENT, () -> x.dropRule(4));
        due(ELEMENT, () -> x.dropRule(12));
        due(ELEMENT, () -> x.dropRule(Integer.MAX_VALUE));
        due(4, () -> x.rules());
        due(1, () -> x.trees(0));
        due(2, () -> x.dropRule(0));
        due(0, () -> x.trees(0));
        due(3, () -> x.dropRule(1));
        due(0, () -> x.trees(1));
        due(3, () -> x.dropRule(2));
        due(1, () -> x.dropRule(3));
        due(ELEMENT, () -> x.dropRule(3));
        due(0, () -> x.rules());
        due(4, () -> x.addRule(10, 3, NONE, NONE));
        due(0, () -> x.dropRule(4));
        due(5, () -> x.addRule(10, 0, 0, 0));
        due(3, () -> x.dropRule(5));
    }

    private static void setRank() {
        promise = "4 setRank";
        Parserpark x = new Parserpark();
        x.addRule(10, 0, NONE, NONE);
        x.addRule(10, 0, NONE, NONE);
        text(x, "a");
        due(0, () -> x.setRank(1, 9));
        due("1", () -> row(x, 0));
        due(9, () -> x.setRank(1, 3));
        due(ARGUMENT, () -> x.setRank(1, 10));
        due(ARGUMENT, () -> x.setRank(1, -1));
        due(ELEMENT, () -> x.setRank(2, 0));
        due(ELEMENT, () -> x.setRank(-1, 10));
        due(3, () -> x.setRank(1, 0));
        due("0", () -> row(x, 0));
        x.dropRule(1);
        due(ELEMENT, () -> x.setRank(1, 0));
        due(ELEMENT, () -> x.setRank(1, 10));
    }

    private static void setStyle() {
        promise = "5 setStyle";
        Parserpark x = new Parserpark();
        x.addRule(10, 0, 0, NONE);
        text(x, "aa");
        due(0, () -> x.setStyle(0, 9, 3));
        due("a   a", () -> form(x, 0));
        due("99", () -> colours(x, 0));
        due(ARGUMENT, () -> x.setStyle(0, 10, 0));
        due(ARGUMENT, () -> x.setStyle(0, -1, 0));
        due(ARGUMENT, () -> x.setStyle(0, 0, 4));
        due(ARGUMENT, () -> x.setStyle(0, 0, -1));
        due(93, () -> x.setStyle(0, 4, 0));
        due(40, () -> x.setStyle(0, 0, 2));
        due(2, () -> x.setStyle(0, 0, 0));
        due(ELEMENT, () -> x.setStyle(1, 0, 0));
        due(ELEMENT, () -> x.setStyle(-1, 10, 4));
        x.dropRule(0);
        due(ELEMENT, () -> x.setStyle(0, 0, 0));
        due(ELEMENT, () -> x.setStyle(0, 10, 0));
    }

    private static void rules() {
        promise = "6 rules";
        Parserpark x = new Parserpark();
        for (int i = 1; i <= 12; i++) {
            int number = i;
            x.addRule(14, 7, NONE, NONE);
            due(number, () -> x.rules());
        }
        x.dropRule(0);
        due(11, () -> x.rules());
        x.dropRule(11);
        due(10, () -> x.rules());
    }

    private static void addText() {
        promise = "7 addText";
        Parserpark x = new Parserpark();
        due(ARGUMENT, () -> x.addText(8));
        due(ARGUMENT, () -> x.addText(-1));
        due(ARGUMENT, () -> x.addText(10));
        due(INDEX, () -> x.length(0));
        for (int i = 0; i < 6; i++) {
            int number = i;
            due(number, () -> x.addText(number + 2));
            due(number + 2, () -> x.letterAt(number, 0));
            due(1, () -> x.length(number));
        }
        due(STATE, () -> x.addText(0));
        due(ARGUMENT, () -> x.addText(8));
        due(6L, () -> x.work());
        Parserpark y = new Parserpark();
        y.addRule(10, 0, NONE, NONE);
        y.addText(0);
        due(1, () -> y.trees(0));
    }

    private static void addLetter() {
        promise = "8 addLetter";
        Parserpark x = pairsAndTriples();
        due(INDEX, () -> x.addLetter(0, 8));
        x.addText(0);
        due(INDEX, () -> x.addLetter(-1, 0));
        due(INDEX, () -> x.addLetter(1, 0));
        due(INDEX, () -> x.addLetter(6, 8));
        due(ARGUMENT, () -> x.addLetter(0, 8));
        due(ARGUMENT, () -> x.addLetter(0, -1));
        due(1, () -> x.length(0));
        // The numbers of trees of n leaves with two or three branches each, never more than 1000.
        int[] numbers = {1, 3, 10, 38, 154, 654, 1000, 1000, 1000};
        for (int number : numbers) {
            due(number, () -> x.addLetter(0, 0));
        }
        due(STATE, () -> x.addLetter(0, 0));
        due(ARGUMENT, () -> x.addLetter(0, 8));
        due(10, () -> x.length(0));
        due(55L, () -> x.work());
    }

    private static void replace() {
        promise = "9 replace";
        Parserpark x = pairsAndTriples();
        text(x, "aaaa");
        due(10, () -> x.trees(0));
        due(INDEX, () -> x.replace(1, 0, 0));
        due(INDEX, () -> x.replace(-1, 0, 0));
        due(INDEX, () -> x.replace(0, 4, 8));
        due(INDEX, () -> x.replace(0, -1, 0));
        due(ARGUMENT, () -> x.replace(0, 0, 8));
        due(ARGUMENT, () -> x.replace(0, 3, -1));
        due(10, () -> x.trees(0));
        due(10L, () -> x.work());
        due(0, () -> x.replace(0, 1, 3));
        due(3, () -> x.letterAt(0, 1));
        due(16L, () -> x.work());
        due(1, () -> x.treesOver(0, 10, 2, 3));
        due(0, () -> x.treesOver(0, 10, 0, 1));
        due(10, () -> x.replace(0, 1, 0));
        due(22L, () -> x.work());
        due(10, () -> x.replace(0, 3, 0));
        due(26L, () -> x.work());
        due(10, () -> x.replace(0, 0, 0));
        due(30L, () -> x.work());
    }

    private static void lengthAndLetterAt() {
        promise = "10 length and 11 letterAt";
        Parserpark x = new Parserpark();
        text(x, "abcdefghab");
        text(x, "h");
        due(10, () -> x.length(0));
        due(1, () -> x.length(1));
        due(INDEX, () -> x.length(2));
        due(INDEX, () -> x.length(-1));
        due(INDEX, () -> x.length(6));
        due(0, () -> x.letterAt(0, 0));
        due(7, () -> x.letterAt(0, 7));
        due(1, () -> x.letterAt(0, 9));
        due(7, () -> x.letterAt(1, 0));
        due(INDEX, () -> x.letterAt(0, 10));
        due(INDEX, () -> x.letterAt(1, 1));
        due(INDEX, () -> x.letterAt(0, -1));
        due(INDEX, () -> x.letterAt(2, 0));
        due(INDEX, () -> x.letterAt(-1, 0));
    }

    private static void trees() {
        promise = "12 trees";
        Parserpark x = new Parserpark();
        text(x, "abc");
        due(0, () -> x.trees(0));
        x.addRule(10, 11, 12, NONE);
        x.addRule(11, 0, NONE, NONE);
        x.addRule(11, 0, 1, NONE);
        x.addRule(12, 1, 2, NONE);
        due(1, () -> x.trees(0));
        x.addRule(12, 2, NONE, NONE);
        due(2, () -> x.trees(0));
        x.addRule(10, 0, 1, 2);
        due(3, () -> x.trees(0));
        x.addRule(10, 0, 12, NONE);
        due(4, () -> x.trees(0));
        x.addRule(10, 13, NONE, NONE);
        x.addRule(13, 14, NONE, NONE);
        x.addRule(14, 0, 1, 2);
        due(5, () -> x.trees(0));
        due(INDEX, () -> x.trees(1));
        due(INDEX, () -> x.trees(-1));
    }

    private static void treesByTrying() {
        promise = "13 treesByTrying";
        Parserpark x = pairsAndTriples();
        text(x, "a");
        int[] numbers = {1, 3, 10, 38};
        due(1, () -> x.treesByTrying(0));
        for (int number : numbers) {
            x.addLetter(0, 0);
            due(number, () -> x.treesByTrying(0));
        }
        x.replace(0, 2, 1);
        due(0, () -> x.treesByTrying(0));
        x.addLetter(0, 0);
        due(UNSUPPORTED, () -> x.treesByTrying(0));
        due(INDEX, () -> x.treesByTrying(1));
        due(INDEX, () -> x.treesByTrying(-1));
        triedOftenYetSoon();
    }

    /** Trying without any memory would take billions of trials here. */
    private static void triedOftenYetSoon() {
        Parserpark x = new Parserpark();
        int[][] rules = {{10, 11}, {10, 11}, {10, 11}, {11, 12}, {11, 12}, {11, 12}, {12, 13}, {12, 13}, {13, 14}};
        for (int[] rule : rules) {
            x.addRule(rule[0], rule[1], NONE, NONE);
        }
        x.addRule(14, 10, 10, NONE);
        x.addRule(14, 10, 10, 10);
        x.addRule(14, 0, NONE, NONE);
        text(x, "aaaaa");
        due(1000, () -> x.treesByTrying(0));
        due(18, () -> x.treesOver(0, 10, 0, 0));
        x.replace(0, 4, 1);
        due(0, () -> x.treesByTrying(0));
    }

    private static void treesOver() {
        promise = "14 treesOver";
        Parserpark x = pairsAndTriples();
        x.addRule(13, 0, 10, NONE);
        text(x, "aaaaaa");
        due(1, () -> x.treesOver(0, 10, 2, 2));
        due(3, () -> x.treesOver(0, 10, 1, 3));
        due(154, () -> x.treesOver(0, 10, 0, 5));
        due(38, () -> x.treesOver(0, 13, 0, 5));
        due(0, () -> x.treesOver(0, 13, 5, 5));
        due(0, () -> x.treesOver(0, 14, 0, 5));
        due(ARGUMENT, () -> x.treesOver(0, 15, 0, 0));
        due(ARGUMENT, () -> x.treesOver(0, 9, 0, 0));
        due(ARGUMENT, () -> x.treesOver(0, 0, 0, 0));
        due(ARGUMENT, () -> x.treesOver(0, 10, 3, 2));
        due(INDEX, () -> x.treesOver(0, 15, 0, 6));
        due(INDEX, () -> x.treesOver(0, 10, 6, 0));
        due(INDEX, () -> x.treesOver(0, 10, -1, 0));
        due(INDEX, () -> x.treesOver(0, 10, 0, -1));
        due(INDEX, () -> x.treesOver(1, 10, 0, 0));
        due(INDEX, () -> x.treesOver(-1, 9, 1, 0));
    }

    private static void sizeAndRuleAt() {
        promise = "15 size and 16 ruleAt";
        Parserpark x = new Parserpark();
        x.addRule(10, 11, 1, 12);
        x.addRule(11, 0, NONE, NONE);
        x.addRule(12, 13, NONE, NONE);
        x.addRule(13, 11, 11, NONE);
        text(x, "abaa");
        text(x, "ab");
        due(6, () -> x.size(0));
        due("0 1 2 3 1 1", () -> row(x, 0));
        due(3, () -> x.ruleAt(0, 3));
        due(ELEMENT, () -> x.ruleAt(0, 6));
        due(ELEMENT, () -> x.ruleAt(0, -1));
        due(0, () -> x.size(1));
        due(ELEMENT, () -> x.ruleAt(1, 0));
        due(INDEX, () -> x.ruleAt(2, 0));
        due(INDEX, () -> x.ruleAt(-1, -1));
        due(INDEX, () -> x.size(2));
        due(INDEX, () -> x.size(-1));
    }

    private static void chosenTreeOrder() {
        promise = "15 and 16, the chosen tree";
        Parserpark x = pairsAndTriples();
        text(x, "aaaa");
        due("1 0 1 0 1 0 0", () -> row(x, 0));
        x.setRank(2, 1);
        due("2 0 0 1 0 0", () -> row(x, 0));
        x.setRank(1, 1);
        due("1 0 1 0 1 0 0", () -> row(x, 0));
        x.setRank(0, 9);
        due("1 0 1 0 1 0 0", () -> row(x, 0));
        // Both splits of the first part have a tree: the nearer one is chosen, though its rule has a lower rank.
        Parserpark y = new Parserpark();
        y.addRule(10, 11, 12, NONE);
        y.addRule(11, 0, NONE, NONE);
        y.addRule(11, 0, 0, NONE);
        y.addRule(12, 0, NONE, NONE);
        y.addRule(12, 0, 0, NONE);
        y.setRank(2, 9);
        y.setRank(3, 9);
        text(y, "aaa");
        due("0 1 4", () -> row(y, 0));
        // With three parts, the second one has the fewest letters of those that fit.
        Parserpark z = new Parserpark();
        z.addRule(10, 11, 12, 13);
        z.addRule(11, 0, NONE, NONE);
        z.addRule(12, 0, 0, 0);
        z.addRule(12, 0, 0, NONE);
        z.addRule(13, 0, NONE, NONE);
        z.addRule(13, 0, 0, NONE);
        text(z, "aaaaa");
        due("0 1 3 5", () -> row(z, 0));
        // A greater rank does not help a rule that has no tree over the span.
        z.addRule(12, 1, NONE, NONE);
        z.setRank(6, 9);
        due("0 1 3 5", () -> row(z, 0));
        z.setRank(0, 5);
        due(4, () -> z.size(0));
    }

    private static void depth() {
        promise = "17 depth";
        Parserpark x = new Parserpark();
        x.addRule(10, 0, NONE, NONE);
        x.addRule(10, 11, 1, NONE);
        x.addRule(11, 12, 0, NONE);
        x.addRule(12, 13, NONE, NONE);
        x.addRule(13, 0, 0, 0);
        text(x, "a");
        text(x, "aaaab");
        text(x, "b");
        due(1, () -> x.depth(0));
        due(4, () -> x.depth(1));
        due(0, () -> x.depth(2));
        due(INDEX, () -> x.depth(3));
        due(INDEX, () -> x.depth(-1));
    }

    private static void colourAt() {
        promise = "18 colourAt";
        Parserpark x = new Parserpark();
        x.addRule(10, 11, 1, 12);
        x.addRule(11, 0, 0, NONE);
        x.addRule(12, 11, 2, NONE);
        text(x, "aabaac");
        text(x, "aabaa");
        due("000000", () -> colours(x, 0));
        x.setStyle(0, 7, 0);
        due("777777", () -> colours(x, 0));
        x.setStyle(1, 4, 0);
        due("447447", () -> colours(x, 0));
        x.setStyle(2, 2, 0);
        due("447442", () -> colours(x, 0));
        x.setStyle(1, 0, 0);
        due("777222", () -> colours(x, 0));
        due("00000", () -> colours(x, 1));
        due(INDEX, () -> x.colourAt(0, 6));
        due(INDEX, () -> x.colourAt(1, 5));
        due(INDEX, () -> x.colourAt(0, -1));
        due(INDEX, () -> x.colourAt(2, 0));
        due(INDEX, () -> x.colourAt(-1, 0));
    }

    private static void formatted() {
        promise = "19 formatted and 20 formattedAt";
        Parserpark x = new Parserpark();
        x.addRule(10, 11, 1, 12);
        x.addRule(11, 0, 0, NONE);
        x.addRule(12, 13, NONE, NONE);
        x.addRule(13, 11, 7, NONE);
        text(x, "aabaah");
        text(x, "aab");
        due("aabaah", () -> form(x, 0));
        x.setStyle(0, 0, 2);
        due("aa  b  aah", () -> form(x, 0));
        x.setStyle(1, 0, 1);
        due("a a  b  a ah", () -> form(x, 0));
        x.setStyle(3, 0, 3);
        due("a a  b  a a   h", () -> form(x, 0));
        x.setStyle(2, 0, 3);
        due(15, () -> x.formatted(0));
        due('a', () -> x.formattedAt(0, 0));
        due(' ', () -> x.formattedAt(0, 13));
        due('h', () -> x.formattedAt(0, 14));
        due(ELEMENT, () -> x.formattedAt(0, 15));
        due(ELEMENT, () -> x.formattedAt(0, -1));
        due(ELEMENT, () -> x.formattedAt(0, Integer.MAX_VALUE));
        due(0, () -> x.formatted(1));
        due(ELEMENT, () -> x.formattedAt(1, 0));
        due(INDEX, () -> x.formatted(2));
        due(INDEX, () -> x.formatted(-1));
        due(INDEX, () -> x.formattedAt(2, 0));
        due(INDEX, () -> x.formattedAt(-1, -1));
    }

    private static void accept() {
        promise = "21 accept";
        Parserpark x = pairsAndTriples();
        text(x, "a");
        text(x, "b");
        due(STATE, () -> x.accept(1));
        due(INDEX, () -> x.accept(2));
        due(INDEX, () -> x.accept(-1));
        due('u', () -> x.fault(0));
        due(1, () -> x.accept(0));
        due('-', () -> x.fault(0));
        // Several trees do not bar that the chosen one is accepted.
        x.addLetter(0, 0);
        x.addLetter(0, 0);
        due('a', () -> x.fault(0));
        due(5, () -> x.accept(0));
        x.setRank(2, 1);
        due(4, () -> x.accept(0));
        x.dropRule(1);
        due('-', () -> x.fault(0));
        // A refused acceptance leaves the earlier one.
        x.replace(0, 1, 1);
        due(STATE, () -> x.accept(0));
        x.replace(0, 1, 0);
        due('-', () -> x.fault(0));
    }

    private static void fault() {
        promise = "22 fault";
        Parserpark x = new Parserpark();
        text(x, "ab");
        due('n', () -> x.fault(0));
        x.addRule(10, 0, 1, NONE);
        due('u', () -> x.fault(0));
        x.addRule(10, 0, 1, NONE);
        due('a', () -> x.fault(0));
        x.accept(0);
        due('a', () -> x.fault(0));
        x.dropRule(0);
        due('x', () -> x.fault(0));
        x.accept(0);
        due('-', () -> x.fault(0));
        x.replace(0, 0, 1);
        due('n', () -> x.fault(0));
        // The accepted tree stays, also when other letters have the same rules, or one row goes on where another ends.
        Parserpark y = new Parserpark();
        y.addRule(10, 11, 11, NONE);
        y.addRule(11, 0, NONE, NONE);
        y.addRule(11, 1, NONE, NONE);
        text(y, "ab");
        y.accept(0);
        y.replace(0, 0, 1);
        due('x', () -> y.fault(0));
        y.replace(0, 0, 0);
        due('-', () -> y.fault(0));
        y.addRule(10, 11, 11, 11);
        y.addLetter(0, 1);
        due('x', () -> y.fault(0));
        due(4, () -> y.accept(0));
        Parserpark z = new Parserpark();
        z.addRule(10, 11, 11, NONE);
        z.addRule(11, 0, NONE, NONE);
        z.addRule(11, 0, 1, NONE);
        text(z, "aab");
        z.accept(0);
        due("0 1 2", () -> row(z, 0));
        z.replace(0, 1, 1);
        z.replace(0, 2, 0);
        due("0 2 1", () -> row(z, 0));
        due('x', () -> z.fault(0));
        z.setRank(0, 4);
        z.setStyle(0, 4, 2);
        z.accept(0);
        due('-', () -> z.fault(0));
        due(INDEX, () -> z.fault(1));
        due(INDEX, () -> z.fault(-1));
        sameRulesOverOtherLetters();
    }

    private static void sameRulesOverOtherLetters() {
        Parserpark x = new Parserpark();
        x.addRule(10, 11, 11, NONE);
        x.addRule(11, 0, NONE, NONE);
        text(x, "aa");
        x.accept(0);
        x.setRank(1, 7);
        due('-', () -> x.fault(0));
        // The row 0 1 1 alone counts, which a longer text has no more.
        x.addLetter(0, 0);
        due('n', () -> x.fault(0));
        x.addRule(10, 11, 11, 11);
        due('x', () -> x.fault(0));
    }

    private static void release() {
        promise = "23 release";
        Parserpark x = new Parserpark();
        due(STATE, () -> x.release());
        x.addRule(10, 0, NONE, NONE);
        due(STATE, () -> x.release());
        x.addText(0);
        due(UNSUPPORTED, () -> x.release());
        x.accept(0);
        due(1, () -> x.release());
        due(2, () -> x.release());
        x.addText(1);
        due(UNSUPPORTED, () -> x.release());
        x.addRule(10, 1, NONE, NONE);
        x.accept(1);
        due(3, () -> x.release());
        x.addRule(10, 1, NONE, NONE);
        due(UNSUPPORTED, () -> x.release());
        x.dropRule(1);
        due('x', () -> x.fault(1));
        due(UNSUPPORTED, () -> x.release());
        x.accept(1);
        due(4, () -> x.release());
    }

    private static void ambiguous() {
        promise = "24 ambiguous";
        Parserpark x = pairsAndTriples();
        due(ARGUMENT, () -> x.ambiguous(0, 1));
        due(ARGUMENT, () -> x.ambiguous(4, 1));
        due(ARGUMENT, () -> x.ambiguous(1, 0));
        due(ARGUMENT, () -> x.ambiguous(1, 5));
        due(ARGUMENT, () -> x.ambiguous(-1, -1));
        due(3, () -> x.ambiguous(1, 3));
        due(3, () -> x.ambiguous(3, 4));
        due(ELEMENT, () -> x.ambiguous(3, 2));
        x.addRule(10, 2, NONE, NONE);
        x.addRule(10, 2, NONE, NONE);
        due(1, () -> x.ambiguous(3, 1));
        due(3, () -> x.ambiguous(2, 4));
        x.dropRule(4);
        due(ELEMENT, () -> x.ambiguous(3, 2));
        due(0L, () -> x.work());
        Parserpark y = new Parserpark();
        due(ELEMENT, () -> y.ambiguous(3, 4));
        y.addRule(10, 3, NONE, NONE);
        y.addRule(10, 3, NONE, NONE);
        due(ELEMENT, () -> y.ambiguous(3, 4));
        y.addRule(11, 0, NONE, NONE);
        y.addRule(11, 0, NONE, NONE);
        due(ELEMENT, () -> y.ambiguous(3, 4));
        y.addRule(10, 11, 2, 11);
        y.addRule(10, 1, 10, NONE);
        due(3, () -> y.ambiguous(3, 4));
        due(ELEMENT, () -> y.ambiguous(2, 4));
    }

    private static void ambiguousAt() {
        promise = "25 ambiguousAt";
        Parserpark x = new Parserpark();
        due(ELEMENT, () -> x.ambiguousAt(3, 4, 0));
        for (int i = 0; i < 2; i++) {
            x.addRule(10, 2, 1, 0);
            x.addRule(10, 1, 2, 0);
            x.addRule(10, 1, 2, 2);
        }
        x.addRule(10, 0, 0, 0);
        due(3, () -> x.ambiguous(3, 4));
        due(1, () -> x.ambiguousAt(3, 4, 0));
        due(2, () -> x.ambiguousAt(3, 4, 1));
        due(0, () -> x.ambiguousAt(3, 3, 2));
        due(ELEMENT, () -> x.ambiguousAt(3, 4, 3));
        due(ELEMENT, () -> x.ambiguousAt(3, 4, 4));
        due(ELEMENT, () -> x.ambiguousAt(2, 4, 0));
        due(ELEMENT, () -> x.ambiguousAt(3, 2, 0));
        due(ARGUMENT, () -> x.ambiguousAt(0, 1, 0));
        due(ARGUMENT, () -> x.ambiguousAt(4, 1, 9));
        due(ARGUMENT, () -> x.ambiguousAt(1, 0, 0));
        due(ARGUMENT, () -> x.ambiguousAt(1, 5, 0));
        Parserpark y = new Parserpark();
        y.addRule(10, 2, 11, NONE);
        y.addRule(11, 2, 1, 2);
        y.addRule(11, 2, 1, 2);
        due(4, () -> y.ambiguous(3, 4));
        due("2212", () -> "" + y.ambiguousAt(3, 4, 0) + y.ambiguousAt(3, 4, 1) + y.ambiguousAt(3, 4, 2)
                + y.ambiguousAt(3, 4, 3));
        due(0L, () -> y.work());
        due(INDEX, () -> y.length(0));
        // The very last row that is looked at.
        y.addRule(10, 11, NONE, NONE);
        y.addRule(11, 2, 12, 2);
        y.addRule(12, 2, 2, NONE);
        y.addRule(12, 2, 2, NONE);
        y.dropRule(1);
        due(4, () -> y.ambiguous(3, 4));
        due(2, () -> y.ambiguousAt(3, 4, 0));
    }

    private static void work() {
        promise = "26 work";
        Parserpark x = new Parserpark();
        x.addRule(10, 0, 1, NONE);
        due(0L, () -> x.work());
        x.addText(0);
        due(1L, () -> x.work());
        x.addLetter(0, 1);
        x.addLetter(0, 2);
        due(6L, () -> x.work());
        text(x, "cc");
        due(9L, () -> x.work());
        x.replace(0, 1, 1);
        due(13L, () -> x.work());
        x.replace(0, 2, 0);
        due(16L, () -> x.work());
        x.addRule(10, 10, 11, NONE);
        due(25L, () -> x.work());
        x.addRule(10, 2, 2, 2);
        due(28L, () -> x.work());
        x.addRule(10, 2, 11, 1);
        due(28L, () -> x.work());
        x.addRule(10, 0, 0, 1);
        due(34L, () -> x.work());
        x.dropRule(1);
        due(43L, () -> x.work());
        x.dropRule(3);
        due(43L, () -> x.work());
        x.setRank(0, 4);
        x.setStyle(0, 4, 1);
        x.trees(0);
        x.treesByTrying(0);
        due(true, () -> x.isSound());
        due(ELEMENT, () -> x.ambiguous(1, 4));
        due(ARGUMENT, () -> x.replace(0, 0, 8));
        due(ARGUMENT, () -> x.addLetter(0, 8));
        due(ARGUMENT, () -> x.addText(8));
        due(43L, () -> x.work());
    }

    private static void cleanShare() {
        promise = "27 cleanShare";
        Parserpark x = new Parserpark();
        due(ARITHMETIC, () -> x.cleanShare());
        x.addRule(10, 0, NONE, NONE);
        for (int i = 0; i < 3; i++) {
            x.addText(0);
        }
        due(0.0f, () -> x.cleanShare());
        x.accept(1);
        due(1.0f / 3.0f, () -> x.cleanShare());
        x.accept(0);
        due(2.0f / 3.0f, () -> x.cleanShare());
        x.accept(2);
        due(1.0f, () -> x.cleanShare());
        x.addRule(10, 11, NONE, NONE);
        x.addRule(11, 0, NONE, NONE);
        due(0.0f, () -> x.cleanShare());
    }

    private static void meanTrees() {
        promise = "28 meanTrees";
        Parserpark x = pairsAndTriples();
        due(ARITHMETIC, () -> x.meanTrees());
        text(x, "aaa");
        due(3.0, () -> x.meanTrees());
        text(x, "b");
        due(1.5, () -> x.meanTrees());
        text(x, "a");
        due(4.0 / 3.0, () -> x.meanTrees());
        text(x, "aaaaaaaaa");
        due(251.0, () -> x.meanTrees());
        text(x, "aaaaaaaaaa");
        due(2004.0 / 5.0, () -> x.meanTrees());
    }

    private static void isSound() {
        promise = "29 isSound";
        Parserpark x = pairsAndTriples();
        due(true, () -> x.isSound());
        text(x, "aaaa");
        text(x, "aaaaaaaaaa");
        text(x, "hhh");
        due(true, () -> x.isSound());
        x.replace(1, 4, 3);
        x.addRule(11, 3, NONE, NONE);
        x.addRule(10, 10, 11, 10);
        x.addLetter(0, 3);
        x.dropRule(2);
        due(true, () -> x.isSound());
        due(true, () -> x.trees(1) > 0);
        spoiltNumbersAreSeen();
    }

    /** No call can make an object unsound, so its kept numbers are spoilt from outside. */
    private static void spoiltNumbersAreSeen() {
        Parserpark x = pairsAndTriples();
        text(x, "aaaaa");
        text(x, "aaaaaaaaaa");
        int[][] numbers = {keptNumbers(x, 0), keptNumbers(x, 1)};
        int[] spots = {4, 1, 9, 12, 88, 499};
        for (int i = 0; i < spots.length; i++) {
            int spot = spots[i];
            int[] kept = numbers[i < 2 ? 0 : 1];
            kept[spot]++;
            due(false, () -> x.isSound());
            kept[spot]--;
            due(true, () -> x.isSound());
        }
    }

    private static int[] keptNumbers(Parserpark x, int text) {
        Object spans = field(((Object[]) field(x, "texts"))[text], "spans");
        return (int[]) field(spans, "numbers");
    }

    private static Object field(Object owner, String name) {
        try {
            Field field = owner.getClass().getDeclaredField(name);
            field.setAccessible(true);
            return field.get(owner);
        } catch (ReflectiveOperationException e) {
            throw new IllegalStateException(e);
        }
    }

    /** The greatest tree that there can be: 19 spans, with five rules over each. */
    private static void largestTree() {
        promise = "15 to 21, the largest tree";
        Parserpark x = new Parserpark();
        for (int name = 10; name < 14; name++) {
            x.addRule(name, name + 1, NONE, NONE);
        }
        x.addRule(14, 0, NONE, NONE);
        x.addRule(14, 10, 10, NONE);
        x.setStyle(5, 6, 3);
        text(x, "aaaaaaaaaa");
        due(95, () -> x.size(0));
        due(4, () -> x.ruleAt(0, 94));
        due(ELEMENT, () -> x.ruleAt(0, 95));
        due(50, () -> x.depth(0));
        due(37, () -> x.formatted(0));
        due(95, () -> x.accept(0));
        due("6666666666", () -> colours(x, 0));
        due(1000, () -> x.trees(0));
        due(true, () -> x.isSound());
    }
}
