import java.io.IOException;
import java.util.List;

/** Each sentence of the document's sections "What it is" and "Terms", with the boundary cases that it names. */
public final class ParserparkTerms extends Sentences {
    /** All letters and names, what lies beside them, and what lies far off. */
    private static final int[] SYMBOLS_AND_OTHERS = {
        MIN, MIN + 1, -100, -3, -2, -1, 0, 1, 2, 3, 4, 5, 6, 7, 8, 9, 10, 11, 12, 13, 14, 15, 16, 100, 256, MAX - 1, MAX,
    };
    private static final List<Integer> LETTERS = List.of(0, 1, 2, 3, 4, 5, 6, 7);
    private static final List<Integer> NAMES = List.of(10, 11, 12, 13, 14);

    public static void main(String[] args) throws IOException {
        readDocument();
        section("What it is");
        tells("A grammar workshop.");
        manyCalls();
        section("Terms");
        introduction();
        lettersAndNames();
        rules();
        formOfRules();
        styleOfNewRules();
        treesOverSpans();
        limitedNumbers();
        chosenRule();
        chosenParts();
        texts();
        workOfLetters();
        workOfRules();
        work();
        colours();
        formattedForm();
        faults();
        exceptions();
        constant();
        end();
    }

    private static void introduction() {
        tells("Rules are added and dropped; texts of a corpus are parsed, span by span, and only as far as a change"
                + " touches them; of all trees of a text one is chosen by ranks, which colours its letters and sets the"
                + " gaps of its formatted form; a tree can be accepted, and a release is barred by each text that has no"
                + " tree, several trees, or another tree than the accepted one. Rules, texts, edits and releases come by"
                + " calls; trees, colours and ambiguities are asked.");
        tells("Symbols and rules.");
        tells("Trees.");
        tells("The chosen tree.");
        tells("Texts.");
        tells("Colours and the formatted form.");
        tells("Faults.");
        tells("Exceptions.");
    }

    // ---- what it is

    private static void manyCalls() {
        says("An object is used for at most 512 calls after it has been made; what later calls answer is free.");
        Parserpark released = grammar(rule(10, 0));
        text(released, "a");
        released.accept(0);
        for (int call = 4; call <= 512; call++) {
            int number = call - 3;
            due(number, () -> released.release());
        }
        Parserpark worked = new Parserpark();
        for (int text = 0; text < 6; text++) {
            text(worked, "abcdefghab");
        }
        for (int call = 61; call <= 511; call++) {
            worked.replace(call % 6, 4 + call % 2, call % 8);
        }
        due(6 * 55L + 451 * 30L, () -> worked.work());
        // Refused calls use up neither the numbers of the rules nor those of the texts.
        Parserpark refused = new Parserpark();
        for (int call = 1; call <= 510; call++) {
            answerOf(call % 2 == 0 ? () -> refused.addRule(9, 0, NONE, NONE) : () -> refused.addText(8));
        }
        due(0, () -> refused.addRule(10, 0, NONE, NONE));
        due(0, () -> refused.addText(0));
        Parserpark asked = grammar(rule(10, 0), rule(10, 10, 10), rule(10, 10, 10, 10));
        text(asked, "aaaaa");
        for (int call = 9; call <= 509; call += 4) {
            due(38, () -> asked.treesByTrying(0));
            due(3, () -> asked.ambiguous(3, 4));
            due(true, () -> asked.isSound());
            due(38, () -> asked.trees(0));
        }
    }

    // ---- symbols and rules

    private static void lettersAndNames() {
        says("There are the letters 0 to 7, and the names 10 to 14.");
        for (int n : SYMBOLS_AND_OTHERS) {
            boolean letter = LETTERS.contains(n);
            boolean name = NAMES.contains(n);
            Object forSymbol = letter || name ? 0 : ARGUMENT;
            due(name ? 0 : ARGUMENT, () -> new Parserpark().addRule(n, 0, NONE, NONE));
            due(forSymbol, () -> new Parserpark().addRule(10, n, 0, NONE));
            due(n == NONE ? 0 : forSymbol, () -> new Parserpark().addRule(10, 0, n, NONE));
            due(n == NONE ? 0 : forSymbol, () -> new Parserpark().addRule(10, 0, 0, n));
            due(letter ? 0 : ARGUMENT, () -> new Parserpark().addText(n));
            Parserpark x = new Parserpark();
            x.addText(0);
            due(letter ? 0 : ARGUMENT, () -> x.addLetter(0, n));
            due(letter ? 0 : ARGUMENT, () -> x.replace(0, 0, n));
            due(name ? 0 : ARGUMENT, () -> x.treesOver(0, n, 0, 0));
        }
        for (int letter : LETTERS) {
            for (int other : LETTERS) {
                Parserpark x = grammar(rule(10, letter));
                x.addText(other);
                due(letter == other ? 1 : 0, () -> x.trees(0));
            }
        }
        for (int name : NAMES) {
            for (int other : NAMES) {
                Parserpark x = grammar(rule(name, 0));
                x.addText(0);
                due(name == other ? 1 : 0, () -> x.treesOver(0, other, 0, 0));
            }
        }
    }

    private static void rules() {
        says("At most 12 rules are added, numbered from 0;");
        Parserpark x = new Parserpark();
        for (int i = 0; i < 12; i++) {
            int number = i;
            due(number, () -> add(x, 10, 0));
        }
        due(STATE, () -> add(x, 10, 0));
        due(12, () -> x.rules());
        says("a rule that is dropped is gone, and its number is not given again.");
        Parserpark y = new Parserpark();
        text(y, "a");
        for (int i = 0; i < 12; i++) {
            int number = i;
            due(number, () -> add(y, 10, 0));
            due(1, () -> y.trees(0));
            due(1, () -> y.dropRule(number));
            due(0, () -> y.trees(0));
            due(0, () -> y.rules());
            due(ELEMENT, () -> y.dropRule(number));
            due(ELEMENT, () -> y.setRank(number, 0));
            due(ELEMENT, () -> y.setStyle(number, 0, 0));
        }
        due(STATE, () -> add(y, 10, 0));
        Parserpark z = grammar(rule(10, 0), rule(10, 1), rule(10, 2));
        z.dropRule(0);
        due(3, () -> add(z, 10, 3));
        z.dropRule(3);
        due(4, () -> add(z, 10, 4));
        due(3, () -> z.rules());
    }

    private static void formOfRules() {
        says("A rule has a name on its left side and 1 to 3 symbols, in an order, on its right one;");
        Parserpark x = grammar(rule(11, 0), rule(12, 0, 1), rule(13, 0, 1, 2));
        text(x, "a");
        text(x, "ab");
        text(x, "abc");
        for (int name : NAMES) {
            for (int i = 0; i < 3; i++) {
                int text = i;
                due(name == 11 + text ? 1 : 0, () -> x.treesOver(text, name, 0, text));
            }
        }
        for (String order : List.of("abc", "acb", "bac", "bca", "cab", "cba")) {
            Parserpark y = grammar(rule(10, 0, 1, 2));
            text(y, order);
            due(order.equals("abc") ? 1 : 0, () -> y.trees(0));
        }
        for (String order : List.of("ab", "ba", "aa", "bb")) {
            Parserpark y = grammar(rule(10, 0, 1));
            text(y, order);
            due(order.equals("ab") ? 1 : 0, () -> y.trees(0));
        }
        due(ARGUMENT, () -> new Parserpark().addRule(10, NONE, NONE, NONE));
        due(ARGUMENT, () -> new Parserpark().addRule(10, NONE, 0, NONE));
        due(ARGUMENT, () -> new Parserpark().addRule(10, 0, NONE, 0));
        due(ARGUMENT, () -> new Parserpark().addRule(0, 0, NONE, NONE));
        says("if this is a single name, it must be greater than the name on the left side.");
        for (int left : NAMES) {
            for (int name : NAMES) {
                due(name > left ? 0 : ARGUMENT, () -> new Parserpark().addRule(left, name, NONE, NONE));
                due(0, () -> new Parserpark().addRule(left, name, name, NONE));
                due(0, () -> new Parserpark().addRule(left, name, 0, name));
            }
            for (int letter : LETTERS) {
                due(0, () -> new Parserpark().addRule(left, letter, NONE, NONE));
            }
        }
    }

    private static void styleOfNewRules() {
        says("A rule has a rank, a colour and a gap, which are 0 at first.");
        Parserpark x = new Parserpark();
        for (int i = 0; i < 12; i++) {
            int number = i;
            add(x, 10, 0);
            due(0, () -> x.setRank(number, 9));
            due(0, () -> x.setStyle(number, 9, 3));
            due(9, () -> x.setRank(number, 9));
            due(93, () -> x.setStyle(number, 9, 3));
            x.dropRule(number);
        }
        Parserpark y = grammar(rule(10, 0, 0));
        text(y, "aa");
        due("00", () -> colours(y, 0));
        due("aa", () -> form(y, 0));
    }

    // ---- trees

    private static void treesOverSpans() {
        says("A tree of a name over a span, which is a row of letters of a text, one beside the other, consists of a rule"
                + " with this name on its left side, and of a part for each of its symbols, so that all parts together,"
                + " in their order, are the span: for a letter the same letter, for a name a tree of this name over the"
                + " part.");
        partsAreTheSpan();
        partsAreNeverEmpty();
        Parserpark x = grammar(rule(12, 13, 1, 13), rule(13, 0), rule(13, 0, 0));
        text(x, "aabaa");
        int[][] spans = {{0, 4}, {0, 3}, {1, 4}, {1, 3}, {0, 2}, {2, 4}, {2, 2}};
        int[] want = {1, 1, 1, 1, 0, 0, 0};
        for (int i = 0; i < spans.length; i++) {
            int[] span = spans[i];
            due(want[i], () -> x.treesOver(0, 12, span[0], span[1]));
        }
        due(1, () -> x.treesOver(0, 13, 0, 1));
        due(0, () -> x.treesOver(0, 13, 1, 2));
        // Two rules of the same form are two trees, and so are two rows of parts; the trees of the parts are multiplied.
        Parserpark y = grammar(rule(10, 11, 11), rule(10, 11, 11), rule(11, 0), rule(11, 0), rule(11, 0, 0));
        text(y, "aaa");
        due(2 * (2 * 1 + 1 * 2), () -> y.trees(0));
        Parserpark z = grammar(rule(10, 11, 12, 13), rule(11, 0), rule(11, 0), rule(12, 0), rule(12, 0), rule(12, 0),
                rule(13, 0), rule(13, 0), rule(13, 0), rule(13, 0), rule(13, 0));
        text(z, "aaa");
        due(2 * 3 * 5, () -> z.trees(0));
        due(2 * 3 * 5, () -> z.treesByTrying(0));
        says("A tree of a text is a tree of the name 10 over all of its letters.");
        for (int name : NAMES) {
            Parserpark named = grammar(rule(name, 0, 1));
            text(named, "ab");
            text(named, "abc");
            text(named, "cab");
            due(name == 10 ? 1 : 0, () -> named.trees(0));
            due(name == 10 ? 1 : 0, () -> named.treesByTrying(0));
            due(0, () -> named.trees(1));
            due(0, () -> named.trees(2));
            due(1, () -> named.treesOver(1, name, 0, 1));
            due(1, () -> named.treesOver(2, name, 1, 2));
        }
    }

    private static void partsAreTheSpan() {
        String[][] parts = {{"a", "c"}, {"ab", "bc"}, {"ab", "c"}, {"a", "bc"}, {"bc", "a"}, {"c", "ab"}};
        int[] want = {0, 0, 1, 1, 0, 0};
        for (int i = 0; i < parts.length; i++) {
            Parserpark x = grammar(rule(10, 11, 12), ruleOf(11, parts[i][0]), ruleOf(12, parts[i][1]));
            text(x, "abc");
            due(want[i], () -> x.trees(0));
            due(want[i], () -> x.treesByTrying(0));
        }
    }

    private static int[] ruleOf(int left, String letters) {
        int[] rule = rule(left);
        for (int i = 0; i < letters.length(); i++) {
            rule[1 + i] = letters.charAt(i) - 'a';
        }
        return rule;
    }

    private static void partsAreNeverEmpty() {
        Parserpark x = grammar(rule(10, 11, 11), rule(10, 11, 11, 11), rule(10, 11, 0), rule(10, 0, 11), rule(11, 0));
        int[] want = {0, 3, 1, 0};
        for (int i = 0; i < want.length; i++) {
            int text = i;
            text(x, repeat('a', i + 1));
            due(want[text], () -> x.trees(text));
            due(want[text], () -> x.treesByTrying(text));
        }
        Parserpark y = grammar(rule(10, 0), rule(11, 0, 0), rule(12, 0, 0, 0));
        text(y, "aa");
        due(0, () -> y.trees(0));
        due(1, () -> y.treesOver(0, 11, 0, 1));
        due(0, () -> y.treesOver(0, 11, 0, 0));
        due(0, () -> y.treesOver(0, 12, 0, 1));
    }

    private static void limitedNumbers() {
        says("Where numbers of trees are told, there is no number greater than 1000: each sum and each product of numbers"
                + " of trees that would be greater is 1000.");
        Parserpark below = grammar(rule(10, 14, 0, 0), rule(14, 13, 10), rule(10, 14), rule(13, 0), rule(11, 13),
                rule(13, 0), rule(10, 11, 13), rule(14, 11, 14), rule(13, 0));
        text(below, "aaaaa");
        everyNumberIs(999, below);
        Parserpark sum = grammar(rule(10, 14), rule(10, 14), rule(10, 0), rule(14, 0), rule(14, 0), rule(14, 10, 10));
        text(sum, "aaa");
        everyNumberIs(1000, sum);
        add(sum, 10, 0, 0, 0);
        everyNumberIs(1000, sum);
        // 9, 10 and 11 trees of each of three parts are 729, 1000 and 1331.
        Parserpark product = grammar(rule(10, 11, 11, 11), rule(11, 12), rule(11, 12), rule(11, 12), rule(12, 0),
                rule(12, 0), rule(12, 0));
        text(product, "aaa");
        everyNumberIs(729, product);
        add(product, 11, 0);
        everyNumberIs(1000, product);
        add(product, 11, 0);
        everyNumberIs(1000, product);
        Parserpark square = grammar(rule(10, 13, 13), rule(13, 14, 14), rule(14, 0), rule(14, 0), rule(14, 0),
                rule(14, 0), rule(14, 0));
        text(square, "aaaa");
        everyNumberIs(625, square);
        add(square, 14, 0);
        everyNumberIs(1000, square);
        greatestNumbers();
    }

    /** All calls that tell the number of trees of the text 0. */
    private static void everyNumberIs(int number, Parserpark x) {
        int last = x.length(0) - 1;
        int letter = x.letterAt(0, last);
        due(number, () -> x.trees(0));
        due(number, () -> x.treesByTrying(0));
        due(number, () -> x.treesOver(0, 10, 0, last));
        due(number, () -> x.replace(0, last, letter));
        due((double) number, () -> x.meanTrees());
        due(true, () -> x.isSound());
    }

    /** A thousand trees of each part, in each of many rows of parts, and of each of many rules. */
    private static void greatestNumbers() {
        Parserpark x = grammar(rule(10, 11), rule(10, 11), rule(10, 10, 10), rule(10, 10, 10, 10), rule(11, 12),
                rule(11, 12), rule(11, 11, 11, 11), rule(12, 13), rule(12, 13), rule(13, 0), rule(13, 0), rule(13, 0));
        x.addText(0);
        due(24, () -> x.trees(0));
        int[] want = {24 * 24, 1000, 1000, 1000, 1000, 1000, 1000, 1000, 1000};
        for (int number : want) {
            due(number, () -> x.addLetter(0, 0));
        }
        due(1000, () -> x.replace(0, 5, 0));
        due(1000, () -> x.treesOver(0, 11, 0, 8));
        due(0, () -> x.treesOver(0, 11, 0, 9));
        due(0, () -> x.replace(0, 9, 1));
        due(1000, () -> x.treesOver(0, 10, 0, 8));
        due(0, () -> x.treesOver(0, 10, 0, 9));
        text(x, "aaaaa");
        due(1000, () -> x.treesByTrying(1));
        due(1000, () -> x.dropRule(2) == 2 ? x.trees(1) : NONE);
        due(true, () -> x.isSound());
    }

    // ---- the chosen tree

    private static void chosenRule() {
        says("Of all trees of a name over a span, the one is chosen whose rule has the greatest rank, of several the one"
                + " with the lowest number;");
        Parserpark x = grammar(rule(10, 0), rule(10, 0), rule(10, 0), rule(10, 1));
        text(x, "a");
        due("0", () -> row(x, 0));
        x.setRank(2, 1);
        due("2", () -> row(x, 0));
        x.setRank(1, 1);
        due("1", () -> row(x, 0));
        x.setRank(0, 1);
        due("0", () -> row(x, 0));
        x.setRank(2, 9);
        x.setRank(1, 8);
        due("2", () -> row(x, 0));
        x.setRank(1, 9);
        due("1", () -> row(x, 0));
        // A rule without a tree over the span is not in question, nor is one that is gone.
        x.setRank(3, 9);
        x.setRank(1, 0);
        x.setRank(2, 0);
        due("0", () -> row(x, 0));
        x.dropRule(0);
        due("1", () -> row(x, 0));
        x.dropRule(1);
        due("2", () -> row(x, 0));
        // The rank and the number go ahead of the letters of the parts, in both directions.
        Parserpark y = grammar(rule(10, 11, 12), rule(10, 12, 11), rule(11, 0), rule(12, 0, 0));
        text(y, "aaa");
        due("0 2 3", () -> row(y, 0));
        y.setRank(1, 1);
        due("1 3 2", () -> row(y, 0));
        y.setRank(0, 1);
        due("0 2 3", () -> row(y, 0));
        Parserpark z = grammar(rule(10, 12, 11), rule(10, 11, 12), rule(11, 0), rule(12, 0, 0));
        text(z, "aaa");
        due("0 3 2", () -> row(z, 0));
        z.setRank(1, 1);
        due("1 2 3", () -> row(z, 0));
    }

    private static void chosenParts() {
        says("of those with this rule, the one whose first part has the fewest letters, and of several the one whose"
                + " second part has the fewest;");
        Parserpark two = grammar(rule(10, 11, 11), rule(11, 0, 0, 0), rule(11, 0, 0), rule(11, 0));
        two.setStyle(0, 0, 1);
        two.setRank(1, 9);
        text(two, "aaaa");
        due("a aaa", () -> form(two, 0));
        two.dropRule(3);
        due("aa aa", () -> form(two, 0));
        Parserpark three = grammar(rule(10, 11, 11, 11), rule(11, 0, 0, 0), rule(11, 0, 0), rule(11, 0));
        three.setStyle(0, 0, 1);
        three.setRank(1, 9);
        three.setRank(2, 8);
        text(three, "aaaaa");
        text(three, "aaaaaaa");
        due("a a aaa", () -> form(three, 0));
        due("a aaa aaa", () -> form(three, 1));
        three.dropRule(3);
        due("aa aa aaa", () -> form(three, 1));
        // The first part goes ahead of the second one.
        Parserpark ahead = grammar(rule(10, 11, 12, 13), rule(11, 0), rule(11, 0, 0), rule(12, 0), rule(12, 0, 0, 0),
                rule(13, 0), rule(13, 0, 0));
        ahead.setStyle(0, 0, 1);
        text(ahead, "aaaaa");
        due("a aaa a", () -> form(ahead, 0));
        ahead.dropRule(1);
        due("aa a aa", () -> form(ahead, 0));
        says("its parts that are names have their chosen trees.");
        Parserpark parts = grammar(rule(10, 11, 1, 11), rule(11, 0), rule(11, 0), rule(11, 12), rule(12, 0));
        text(parts, "aba");
        due("0 1 1", () -> row(parts, 0));
        parts.setRank(2, 1);
        due("0 2 2", () -> row(parts, 0));
        parts.setRank(3, 2);
        due("0 3 4 3 4", () -> row(parts, 0));
        Parserpark spans = grammar(rule(10, 11, 11), rule(11, 0), rule(11, 12), rule(12, 0, 0), rule(11, 0, 0),
                rule(12, 0));
        spans.setRank(2, 5);
        text(spans, "aaa");
        due("0 2 5 2 3", () -> row(spans, 0));
        says("The chosen tree of a text is that of the name 10 over all of its letters.");
        Parserpark whole = grammar(rule(10, 0, 1), rule(11, 0, 1), rule(10, 0), rule(10, 1));
        whole.setRank(1, 9);
        whole.setRank(2, 9);
        whole.setRank(3, 9);
        text(whole, "ab");
        text(whole, "aba");
        due("0", () -> row(whole, 0));
        due("", () -> row(whole, 1));
        whole.dropRule(0);
        due(0, () -> whole.size(0));
    }

    // ---- texts

    private static void texts() {
        says("At most 6 texts exist, numbered from 0;");
        Parserpark x = new Parserpark();
        for (int i = 0; i < 6; i++) {
            int number = i;
            due(INDEX, () -> x.length(number));
            due(number, () -> x.addText(7 - number));
            due(7 - number, () -> x.letterAt(number, 0));
        }
        due(STATE, () -> x.addText(0));
        due(INDEX, () -> x.length(6));
        due(INDEX, () -> x.length(-1));
        due("hgfedc", () -> letters(x, 0) + letters(x, 1) + letters(x, 2) + letters(x, 3) + letters(x, 4) + letters(x, 5));
        says("a text has 1 to 10 letters, at places from 0.");
        Parserpark y = new Parserpark();
        y.addText(5);
        for (int i = 1; i < 10; i++) {
            int length = i;
            due(length, () -> y.length(0));
            due(INDEX, () -> y.letterAt(0, length));
            due(0, () -> y.addLetter(0, (5 + length) % 8));
            due((5 + length) % 8, () -> y.letterAt(0, length));
        }
        due(10, () -> y.length(0));
        due(STATE, () -> y.addLetter(0, 0));
        due(10, () -> y.length(0));
        due(INDEX, () -> y.letterAt(0, 10));
        due(INDEX, () -> y.letterAt(0, -1));
        due("fghabcdefg", () -> letters(y, 0));
    }

    private static void workOfLetters() {
        says("When a letter is added to it, all spans that end with this letter are found;");
        Parserpark x = grammar(rule(10, 10, 10), rule(10, 0), rule(11, 10, 1));
        due(1L, () -> workOf(x, () -> x.addText(0)));
        for (int i = 2; i <= 10; i++) {
            long length = i;
            due(length, () -> workOf(x, () -> x.addLetter(0, length == 10 ? 1 : 0)));
        }
        due(0L, () -> workOf(x, () -> x.addLetter(0, 0)));
        int[] catalan = {1, 1, 2, 5, 14, 42, 132, 429, 1000};
        for (int i = 0; i < 9; i++) {
            int from = i;
            due(catalan[8 - from], () -> x.treesOver(0, 10, from, 8));
            due(catalan[8 - from], () -> x.treesOver(0, 11, from, 9));
            due(0, () -> x.treesOver(0, 10, from, 9));
        }
        says("when a letter is replaced, also by the same one, all spans that have its place;");
        for (int length = 1; length <= 10; length++) {
            for (int place = 0; place < length; place++) {
                replaceAt(length, place);
            }
        }
    }

    private static void replaceAt(int length, int place) {
        Parserpark x = grammar(rule(10, 10, 10), rule(10, 0));
        text(x, repeat('a', length));
        long spans = (place + 1) * (length - place);
        String before = numbers(x, 0, 10);
        due(spans, () -> workOf(x, () -> x.replace(0, place, 0)));
        due(before, () -> numbers(x, 0, 10));
        due(spans, () -> workOf(x, () -> x.replace(0, place, 1)));
        String other = repeat('a', place) + "b" + repeat('a', length - place - 1);
        Parserpark y = grammar(rule(10, 10, 10), rule(10, 0));
        text(y, other);
        due(numbers(y, 0, 10), () -> numbers(x, 0, 10));
        due(spans, () -> workOf(x, () -> x.replace(0, place, 0)));
    }

    private static void workOfRules() {
        says("when a rule is added or dropped, in each text in which all letters of the rule stand (in every text, if it"
                + " has none), all spans.");
        foundAnew(74, 4, rule(10, 0));
        foundAnew(20, 4, rule(10, 1));
        foundAnew(6, 1, rule(10, 2));
        foundAnew(0, 0, rule(10, 7));
        foundAnew(74, 4, rule(10, 0, 0));
        foundAnew(19, 3, rule(10, 0, 1));
        foundAnew(19, 3, rule(10, 1, 0));
        foundAnew(6, 1, rule(10, 2, 0));
        foundAnew(0, 0, rule(10, 3, 0));
        foundAnew(0, 0, rule(10, 0, 3));
        foundAnew(6, 1, rule(10, 0, 1, 2));
        foundAnew(6, 1, rule(10, 2, 2, 0));
        foundAnew(0, 0, rule(10, 3, 0, 0));
        foundAnew(0, 0, rule(10, 0, 3, 0));
        foundAnew(0, 0, rule(10, 0, 0, 3));
        foundAnew(74, 4, rule(10, 11, 0));
        foundAnew(74, 4, rule(10, 0, 11));
        foundAnew(6, 1, rule(10, 11, 2, 11));
        foundAnew(6, 1, rule(10, 2, 11, 0));
        foundAnew(6, 1, rule(10, 11, 0, 2));
        foundAnew(75, 5, rule(10, 11));
        foundAnew(75, 5, rule(10, 11, 11));
        foundAnew(75, 5, rule(14, 10, 14, 12));
        due(0, () -> grammar(rule(10, 11)).dropRule(0));
        foundAnewAreAllSpans();
    }

    /** How many spans and texts, of texts of 3, 6, 10, 1 and 55 spans, are found when the rule comes and goes. */
    private static void foundAnew(long spans, int texts, int[] rule) {
        Parserpark x = new Parserpark();
        text(x, "ab");
        text(x, "bca");
        text(x, "bbba");
        text(x, "b");
        text(x, repeat('a', 10));
        due(spans, () -> workOf(x, () -> x.addRule(rule[0], rule[1], rule[2], rule[3])));
        due(spans, () -> workOf(x, () -> x.dropRule(0)));
        x.addRule(rule[0], rule[1], rule[2], rule[3]);
        due(texts, () -> x.dropRule(1));
    }

    private static void foundAnewAreAllSpans() {
        Parserpark x = grammar(rule(10, 10, 10));
        Parserpark y = grammar(rule(10, 10, 10), rule(10, 0));
        text(x, repeat('a', 8));
        text(y, repeat('a', 8));
        String with = numbers(y, 0, 10);
        String without = numbers(x, 0, 10);
        add(x, 10, 0);
        due(with, () -> numbers(x, 0, 10));
        x.dropRule(1);
        due(without, () -> numbers(x, 0, 10));
        add(x, 10, 0);
        due(with, () -> numbers(x, 0, 10));
    }

    private static void work() {
        says("The work is the number of spans that were found so far, in all texts.");
        Parserpark x = new Parserpark();
        due(0L, () -> x.work());
        add(x, 10, 11);
        due(0L, () -> x.work());
        for (int i = 1; i <= 6; i++) {
            long texts = i;
            x.addText(i);
            due(texts, () -> x.work());
        }
        x.addLetter(5, 0);
        due(8L, () -> x.work());
        x.replace(5, 0, 0);
        due(10L, () -> x.work());
        add(x, 10, 12);
        due(10L + 5 + 3, () -> x.work());
        x.dropRule(0);
        due(18L + 5 + 3, () -> x.work());
        // What is only asked finds no spans of a text, nor do ranks, styles and acceptance.
        add(x, 10, 0);
        add(x, 10, 0);
        due(26L + 3 + 3, () -> x.work());
        x.setRank(2, 4);
        x.setStyle(2, 4, 1);
        x.ambiguous(3, 4);
        x.ambiguousAt(3, 4, 0);
        x.isSound();
        x.trees(5);
        x.treesByTrying(5);
        x.treesOver(5, 10, 0, 1);
        x.replace(0, 0, 0);
        x.accept(0);
        row(x, 0);
        form(x, 0);
        x.cleanShare();
        x.meanTrees();
        due(33L, () -> x.work());
        due(33L, () -> x.work());
    }

    // ---- colours and the formatted form

    private static void colours() {
        says("The colour of a letter is that of the lowest rule above it in the chosen tree whose colour is not 0, or 0 if"
                + " there is none.");
        Parserpark x = grammar(rule(10, 11, 0, 12), rule(11, 12), rule(12, 13, 1), rule(13, 2));
        text(x, "cbacb");
        due("00000", () -> colours(x, 0));
        x.setStyle(0, 9, 0);
        due("99999", () -> colours(x, 0));
        x.setStyle(1, 1, 0);
        due("11999", () -> colours(x, 0));
        x.setStyle(3, 3, 0);
        due("31939", () -> colours(x, 0));
        x.setStyle(2, 2, 0);
        due("32932", () -> colours(x, 0));
        x.setStyle(0, 0, 0);
        due("32032", () -> colours(x, 0));
        x.setStyle(2, 0, 0);
        due("31030", () -> colours(x, 0));
        x.setStyle(3, 0, 3);
        due("11000", () -> colours(x, 0));
        // Only the chosen tree counts, not another one.
        Parserpark y = grammar(rule(10, 0), rule(10, 0));
        y.setStyle(1, 8, 0);
        text(y, "a");
        due("0", () -> colours(y, 0));
        y.setRank(1, 1);
        due("8", () -> colours(y, 0));
    }

    private static void formattedForm() {
        says("The formatted form of a tree consists of the formatted forms of its parts, with as many blanks between each"
                + " two of them as the gap of its rule tells;");
        Parserpark x = grammar(rule(10, 11, 12, 11), rule(11, 0, 1), rule(12, 13), rule(13, 2, 2, 2));
        text(x, "abcccab");
        due("abcccab", () -> form(x, 0));
        x.setStyle(0, 0, 1);
        due("ab ccc ab", () -> form(x, 0));
        x.setStyle(0, 0, 3);
        due("ab   ccc   ab", () -> form(x, 0));
        x.setStyle(1, 0, 2);
        due("a  b   ccc   a  b", () -> form(x, 0));
        x.setStyle(3, 0, 1);
        due("a  b   c c c   a  b", () -> form(x, 0));
        // A rule with one part has nothing between two parts.
        x.setStyle(2, 0, 3);
        due("a  b   c c c   a  b", () -> form(x, 0));
        x.setStyle(0, 0, 0);
        due("a  bc c ca  b", () -> form(x, 0));
        says("a letter is formatted as 'a' for 0, 'b' for 1 and so on.");
        for (int letter : LETTERS) {
            Parserpark y = grammar(rule(10, letter));
            y.addText(letter);
            due("abcdefgh".charAt(letter), () -> y.formattedAt(0, 0));
            due(1, () -> y.formatted(0));
        }
    }

    // ---- faults

    private static void faults() {
        says("The fault of a text is the first one of these that applies:");
        Parserpark x = grammar(rule(10, 0), rule(10, 0), rule(10, 1), rule(10, 1));
        text(x, "a");
        // Several trees and none accepted; then another one accepted; then no tree, with one accepted.
        due('a', () -> x.fault(0));
        x.setRank(1, 1);
        x.accept(0);
        x.setRank(1, 0);
        due('a', () -> x.fault(0));
        x.replace(0, 0, 2);
        due('n', () -> x.fault(0));
        x.addText(2);
        due('n', () -> x.fault(1));
        says("'n' there is no tree;");
        Parserpark none = grammar(rule(10, 0, 1), rule(11, 0));
        text(none, "a");
        text(none, "ab");
        due('n', () -> none.fault(0));
        due('u', () -> none.fault(1));
        none.accept(1);
        none.dropRule(0);
        due('n', () -> none.fault(1));
        says("'a' there are several;");
        Parserpark several = grammar(rule(10, 0), rule(10, 0));
        text(several, "a");
        due('a', () -> several.fault(0));
        due(1, () -> several.accept(0));
        due('a', () -> several.fault(0));
        several.dropRule(1);
        due('-', () -> several.fault(0));
        add(several, 10, 0);
        due('a', () -> several.fault(0));
        Parserpark thousand = grammar(rule(10, 0), rule(10, 10, 10), rule(10, 10, 10, 10));
        text(thousand, repeat('a', 10));
        due('a', () -> thousand.fault(0));
        says("'u' no tree was accepted;");
        Parserpark accepted = grammar(rule(10, 0));
        text(accepted, "a");
        text(accepted, "a");
        due('u', () -> accepted.fault(0));
        accepted.accept(0);
        due('-', () -> accepted.fault(0));
        due('u', () -> accepted.fault(1));
        otherTrees();
    }

    private static void otherTrees() {
        says("'x' the chosen tree is another one than the accepted one, which is the case if the rules of both, each one"
                + " ahead of those of its parts, from the first part to the last, are not the same rows;");
        // A rule of the same form has another number.
        Parserpark x = grammar(rule(10, 0));
        text(x, "a");
        x.accept(0);
        x.dropRule(0);
        add(x, 10, 0);
        due('x', () -> x.fault(0));
        // The same rules in another order, and then in the first one again.
        Parserpark y = grammar(rule(10, 11, 11), rule(11, 0), rule(11, 0, 1), rule(10, 11));
        text(y, "aab");
        y.accept(0);
        y.replace(0, 1, 1);
        y.replace(0, 2, 0);
        due("0 2 1", () -> row(y, 0));
        due('x', () -> y.fault(0));
        y.replace(0, 1, 0);
        y.replace(0, 2, 1);
        due('-', () -> y.fault(0));
        // The rows differ in their last rule alone; then one of them is longer.
        Parserpark last = grammar(rule(10, 11), rule(11, 0));
        text(last, "a");
        last.accept(0);
        last.dropRule(1);
        add(last, 11, 0);
        due("0 2", () -> row(last, 0));
        due('x', () -> last.fault(0));
        Parserpark longer = grammar(rule(10, 0, 11), rule(11, 0, 12), rule(12, 0));
        text(longer, "aaa");
        due("0 1 2", () -> row(longer, 0));
        longer.accept(0);
        longer.dropRule(2);
        add(longer, 11, 0, 0);
        due("0 3", () -> row(longer, 0));
        due('x', () -> longer.fault(0));
        longer.accept(0);
        due('-', () -> longer.fault(0));
        longer.dropRule(3);
        add(longer, 12, 0);
        due("0 1 4", () -> row(longer, 0));
        due('x', () -> longer.fault(0));
        // Another letter, or the same one anew, leaves what was accepted.
        Parserpark grown = grammar(rule(10, 0), rule(10, 0, 0));
        text(grown, "a");
        grown.accept(0);
        grown.replace(0, 0, 0);
        due('-', () -> grown.fault(0));
        grown.addLetter(0, 0);
        due('x', () -> grown.fault(0));
        says("otherwise there is none, '-'.");
        Parserpark none = grammar(rule(10, 11, 11), rule(11, 0));
        text(none, "aa");
        none.accept(0);
        due('-', () -> none.fault(0));
        none.setRank(0, 5);
        none.setStyle(1, 3, 3);
        add(none, 14, 0);
        due('-', () -> none.fault(0));
    }

    // ---- exceptions

    private static void exceptions() {
        // ParserparkRefusals has the checks of these two.
        tells("A method that throws an exception changes nothing.");
        tells("If several exceptions apply, the exception that is listed first is thrown.");
    }

    private static void constant() {
        says("The constants: `NONE = -1`: No symbol.");
        due(-1, () -> Parserpark.NONE);
        due(0, () -> new Parserpark().addRule(10, 0, Parserpark.NONE, Parserpark.NONE));
        tells("Ahead of the calls `addRule`, `dropRule`, `setRank`, `setStyle`, `rules` the interface says: ---- rules.");
        tells("Ahead of the calls `addText`, `addLetter`, `replace`, `length`, `letterAt` the interface says: ---- texts.");
        tells("Ahead of the calls `trees`, `treesByTrying`, `treesOver`, `size`, `ruleAt`, `depth`, `colourAt`,"
                + " `formatted`, `formattedAt` the interface says: ---- trees.");
        tells("Ahead of the calls `accept`, `fault`, `release` the interface says: ---- acceptance and releases.");
        tells("Ahead of the calls `ambiguous`, `ambiguousAt`, `work`, `cleanShare`, `meanTrees`, `isSound` the interface"
                + " says: ---- ambiguities and figures.");
    }
}
