import java.io.IOException;

/** Each sentence of the document's sections "Promise 1" to "Promise 29", with the boundary cases that it names. */
public final class ParserparkSentences extends Sentences {
    private static final String TEXT = "`text`: the number of the text";
    private static final String RULE = "`rule`: the number of the rule";
    private static final String NO_TEXT = "Throws `IndexOutOfBoundsException` if there is no such text";
    private static final String NO_PLACE = "Throws `IndexOutOfBoundsException` if there is no such text or no such place in it";
    private static final String NO_LETTER = "Throws `IllegalArgumentException` if there is no such letter";
    private static final String NO_RULE = "Throws `NoSuchElementException` if there is no such rule, or it is gone";
    private static final String NO_INDEX = "Throws `NoSuchElementException` if there is no tree, or no such index";
    private static final String LETTER = "`letter`: the letter, 0 to 7";
    private static final String OUT_OF_RANGE = "Throws `IllegalArgumentException` if a number is out of range";

    private static final int[] FAR_OFF = {MIN, MIN + 1, -100, -2, -1, 100, 256, MAX - 1, MAX};

    public static void main(String[] args) throws IOException {
        readDocument();
        newObject();
        addRule();
        dropRule();
        setRank();
        setStyle();
        rules();
        addText();
        addLetter();
        replace();
        length();
        letterAt();
        trees();
        treesByTrying();
        treesOver();
        size();
        ruleAt();
        depth();
        colourAt();
        formatted();
        formattedAt();
        accept();
        fault();
        release();
        ambiguous();
        ambiguousAt();
        work();
        cleanShare();
        meanTrees();
        isSound();
        end();
    }

    // ---- what many sentences ask

    /** With 0 to 6 texts of a letter 0 that has a tree, each other number of a text is refused. */
    private static void refusesOtherTexts(NumberCall call) {
        says(NO_TEXT);
        otherTexts(call);
    }

    private static void otherTexts(NumberCall call) {
        for (int texts = 0; texts <= 6; texts++) {
            Parserpark x = grammar(rule(10, 0));
            for (int text = 0; text < texts; text++) {
                x.addText(0);
            }
            for (int number : FAR_OFF) {
                due(INDEX, () -> call.answer(x, number));
            }
            for (int i = 0; i <= 7; i++) {
                int number = i;
                boolean there = number < texts;
                due(!there, () -> INDEX.equals(answerOf(() -> call.answer(x, number))));
            }
        }
    }

    /** Of texts of 1 to 10 letters, the places 0 up to the last letter are there, and no other ones. */
    private static void refusesOtherPlaces(NumberCall call) {
        for (int length = 1; length <= 10; length++) {
            Parserpark x = grammar(rule(10, 0));
            text(x, repeat('a', length));
            text(x, repeat('a', 10));
            for (int number : FAR_OFF) {
                due(INDEX, () -> call.answer(x, number));
            }
            for (int i = 0; i <= 11; i++) {
                int place = i;
                boolean there = place < length;
                due(!there, () -> INDEX.equals(answerOf(() -> call.answer(x, place))));
            }
        }
    }

    private static void refusesOtherLetters(NumberCall call) {
        says(NO_LETTER);
        for (int number : FAR_OFF) {
            due(ARGUMENT, () -> call.answer(oneText(), number));
        }
        for (int i = 0; i <= 15; i++) {
            int letter = i;
            due(letter > 7, () -> ARGUMENT.equals(answerOf(() -> call.answer(oneText(), letter))));
        }
    }

    private static Parserpark oneText() {
        Parserpark x = new Parserpark();
        x.addText(0);
        return x;
    }

    /** With 0 to 12 rules, all of them there and then one after the other gone. */
    private static void refusesOtherRules(NumberCall call) {
        says(NO_RULE);
        for (int rules = 0; rules <= 12; rules++) {
            Parserpark x = new Parserpark();
            for (int rule = 0; rule < rules; rule++) {
                add(x, 10, 0);
            }
            for (int number : FAR_OFF) {
                due(ELEMENT, () -> call.answer(x, number));
            }
            for (int i = 12; i >= 0; i--) {
                int number = i;
                boolean there = number < rules;
                due(!there, () -> ELEMENT.equals(answerOf(() -> call.answer(x, number))));
                answerOf(() -> x.dropRule(number));
                due(ELEMENT, () -> call.answer(x, number));
            }
        }
    }

    // ---- rules

    private static void newObject() {
        promise(1);
        says("Creates a workshop without rules and texts.");
        Parserpark x = new Parserpark();
        due(0, () -> x.rules());
        due(0L, () -> x.work());
        due(true, () -> x.isSound());
        due(ELEMENT, () -> x.dropRule(0));
        due(INDEX, () -> x.length(0));
        due(STATE, () -> x.release());
        due(ARITHMETIC, () -> x.cleanShare());
        due(ARITHMETIC, () -> x.meanTrees());
        due(ELEMENT, () -> x.ambiguous(3, 4));
        // Another object's rules, texts, work and releases are its own.
        Parserpark other = grammar(rule(10, 0), rule(10, 1));
        text(other, "a");
        other.accept(0);
        other.release();
        due(0, () -> x.rules());
        due(0L, () -> x.work());
        due(INDEX, () -> x.length(0));
        due(0, () -> add(x, 10, 0));
        due(0, () -> x.addText(0));
        due('u', () -> x.fault(0));
        x.accept(0);
        due(1, () -> x.release());
        due(2, () -> other.release());
    }

    private static void addRule() {
        promise(2);
        says("Adds a rule.");
        Parserpark x = new Parserpark();
        text(x, "ab");
        due(0, () -> add(x, 10, 0, 1));
        due(1, () -> x.rules());
        due(1, () -> x.trees(0));
        due(1, () -> add(x, 10, 0, 1));
        due(2, () -> x.rules());
        due(2, () -> x.trees(0));
        says("`left`: the name on its left side");
        for (int left = 10; left <= 14; left++) {
            Parserpark named = grammar(rule(left, 0));
            named.addText(0);
            for (int name = 10; name <= 14; name++) {
                int asked = name;
                due(asked == left ? 1 : 0, () -> named.treesOver(0, asked, 0, 0));
            }
        }
        says("`first`: its first symbol");
        due(1, () -> treesOf("fcd", rule(10, 5, 2, 3)));
        due(0, () -> treesOf("acd", rule(10, 5, 2, 3)));
        says("`second`: its second symbol, or NONE");
        due(0, () -> treesOf("fad", rule(10, 5, 2, 3)));
        due(1, () -> treesOf("f", rule(10, 5, NONE)));
        due(0, () -> treesOf("fc", rule(10, 5, NONE)));
        says("`third`: its third symbol, or NONE");
        due(0, () -> treesOf("fca", rule(10, 5, 2, 3)));
        due(0, () -> treesOf("fc", rule(10, 5, 2, 3)));
        due(1, () -> treesOf("fc", rule(10, 5, 2, NONE)));
        due(0, () -> treesOf("fcd", rule(10, 5, 2, NONE)));
        says("Returns the number of the rule.");
        Parserpark y = new Parserpark();
        for (int i = 0; i < 12; i++) {
            int number = i;
            due(number, () -> add(y, 14 - number % 5, 7));
            due(0, () -> y.setRank(number, number % 10));
            due(number % 10, () -> y.setRank(number, 0));
        }
        refusedRules();
        says("Throws `IllegalStateException` if 12 rules were added");
        due(STATE, () -> add(y, 10, 0));
        for (int i = 0; i < 12; i++) {
            y.dropRule(i);
            due(STATE, () -> add(y, 10, 0));
        }
        Parserpark eleven = new Parserpark();
        for (int i = 0; i < 11; i++) {
            add(eleven, 10, 0);
            answerOf(() -> add(eleven, 10, 10));
        }
        due(11, () -> add(eleven, 10, 0));
        due(STATE, () -> add(eleven, 10, 0));
    }

    private static int treesOf(String letters, int[] rule) {
        Parserpark x = grammar(rule);
        text(x, letters);
        return x.trees(0);
    }

    private static void refusedRules() {
        says("Throws `IllegalArgumentException` if there is no such name or symbol, there is a third symbol without a second"
                + " one, or a single name is not greater than that on the left side");
        Parserpark x = new Parserpark();
        int[] noSymbols = {MIN, -100, -2, 8, 9, 15, 16, 100, MAX};
        for (int symbol : noSymbols) {
            due(ARGUMENT, () -> x.addRule(symbol, 0, NONE, NONE));
            due(ARGUMENT, () -> x.addRule(10, symbol, NONE, NONE));
            due(ARGUMENT, () -> x.addRule(10, symbol, 0, 0));
            due(ARGUMENT, () -> x.addRule(10, 0, symbol, NONE));
            due(ARGUMENT, () -> x.addRule(10, 0, symbol, 0));
            due(ARGUMENT, () -> x.addRule(10, 0, 0, symbol));
            due(ARGUMENT, () -> x.addRule(10, 0, NONE, symbol));
        }
        for (int noName = -1; noName <= 7; noName++) {
            int left = noName;
            due(ARGUMENT, () -> x.addRule(left, 14, NONE, NONE));
        }
        due(ARGUMENT, () -> x.addRule(10, NONE, NONE, NONE));
        due(ARGUMENT, () -> x.addRule(10, NONE, 0, NONE));
        due(ARGUMENT, () -> x.addRule(10, NONE, 0, 0));
        due(ARGUMENT, () -> x.addRule(10, NONE, NONE, 0));
        due(ARGUMENT, () -> x.addRule(10, 0, NONE, 0));
        due(ARGUMENT, () -> x.addRule(10, 0, NONE, 11));
        due(ARGUMENT, () -> x.addRule(10, 11, NONE, 14));
        for (int left = 10; left <= 14; left++) {
            for (int name = 10; name <= left; name++) {
                int[] rule = rule(left, name);
                due(ARGUMENT, () -> x.addRule(rule[0], rule[1], NONE, NONE));
            }
        }
        due(0, () -> x.rules());
        due(0, () -> x.addRule(13, 14, NONE, NONE));
        due(1, () -> x.addRule(10, 11, NONE, NONE));
        due(2, () -> x.addRule(14, 14, 14, NONE));
        due(3, () -> x.addRule(14, 10, 10, 10));
        due(4, () -> x.addRule(14, 0, NONE, NONE));
    }

    private static void dropRule() {
        promise(3);
        says("Drops a rule.");
        Parserpark x = grammar(rule(10, 0), rule(10, 0), rule(10, 0));
        text(x, "a");
        due(3, () -> x.trees(0));
        x.dropRule(1);
        due(2, () -> x.trees(0));
        due(2, () -> x.rules());
        due(0, () -> x.ruleAt(0, 0));
        says(RULE);
        x.dropRule(0);
        due(2, () -> x.ruleAt(0, 0));
        due(0, () -> x.setRank(2, 0));
        says("Returns the number of texts whose spans are found anew by this.");
        Parserpark none = grammar(rule(10, 0), rule(10, 11));
        due(0, () -> none.dropRule(0));
        due(0, () -> none.dropRule(1));
        for (int texts = 1; texts <= 6; texts++) {
            int all = texts;
            Parserpark y = grammar(rule(10, 11), rule(10, 0), rule(10, 1), rule(10, 0, 1), rule(10, 12, 12, 12));
            for (int text = 0; text < all; text++) {
                y.addText(text % 2);
            }
            due(all, () -> y.dropRule(0));
            due((all + 1) / 2, () -> y.dropRule(1));
            due(all / 2, () -> y.dropRule(2));
            due(0, () -> y.dropRule(3));
            due(all, () -> y.dropRule(4));
        }
        refusesOtherRules((y, number) -> y.dropRule(number));
    }

    private static void setRank() {
        promise(4);
        says("Sets the rank of a rule.");
        Parserpark x = grammar(rule(10, 0), rule(10, 0), rule(10, 0));
        text(x, "a");
        x.setRank(1, 1);
        due(1, () -> x.ruleAt(0, 0));
        says(RULE);
        x.setRank(2, 2);
        due(2, () -> x.ruleAt(0, 0));
        due(1, () -> x.setRank(1, 1));
        due(0, () -> x.setRank(0, 0));
        says("`rank`: the rank, 0 to 9");
        for (int i = 0; i <= 9; i++) {
            int rank = i;
            Parserpark y = grammar(rule(10, 0));
            due(0, () -> y.setRank(0, rank));
            due(rank, () -> y.setRank(0, rank));
        }
        Parserpark ranks = grammar(rule(10, 0), rule(10, 0));
        text(ranks, "a");
        for (int rank = 1; rank <= 9; rank++) {
            ranks.setRank(1, rank);
            ranks.setRank(0, rank - 1);
            due(1, () -> ranks.ruleAt(0, 0));
        }
        says("Returns the rank before the call.");
        Parserpark z = grammar(rule(10, 0));
        due(0, () -> z.setRank(0, 9));
        due(9, () -> z.setRank(0, 0));
        due(0, () -> z.setRank(0, 5));
        due(ARGUMENT, () -> z.setRank(0, 10));
        due(5, () -> z.setRank(0, 5));
        refusesOtherRules((y, number) -> y.setRank(number, 0));
        says("Throws `IllegalArgumentException` if the rank is out of range");
        for (int rank : new int[] {MIN, -2, -1, 10, 11, 256, MAX}) {
            due(ARGUMENT, () -> z.setRank(0, rank));
        }
        due(5, () -> z.setRank(0, 0));
    }

    private static void setStyle() {
        promise(5);
        says("Sets the colour and the gap of a rule.");
        Parserpark x = grammar(rule(10, 0, 0), rule(10, 0, 1));
        text(x, "aa");
        text(x, "ab");
        x.setStyle(0, 4, 2);
        due("44", () -> colours(x, 0));
        due("a  a", () -> form(x, 0));
        says(RULE);
        due("00", () -> colours(x, 1));
        due("ab", () -> form(x, 1));
        x.setStyle(1, 9, 3);
        due("99 a   b", () -> colours(x, 1) + " " + form(x, 1));
        due("44 a  a", () -> colours(x, 0) + " " + form(x, 0));
        says("`colour`: the colour, 0 to 9");
        for (int i = 0; i <= 9; i++) {
            int colour = i;
            due(true, () -> x.setStyle(0, colour, 0) >= 0);
            due("" + colour + colour, () -> colours(x, 0));
            due(10 * colour, () -> x.setStyle(0, colour, 0));
        }
        says("`gap`: the gap, 0 to 3");
        String[] forms = {"aa", "a a", "a  a", "a   a"};
        for (int i = 0; i <= 3; i++) {
            int gap = i;
            due(true, () -> x.setStyle(0, 0, gap) >= 0);
            due(forms[gap], () -> form(x, 0));
            due(gap, () -> x.setStyle(0, 0, gap));
        }
        says("Returns 10 times the colour before the call, plus the gap before the call.");
        Parserpark y = grammar(rule(10, 0));
        int before = 0;
        for (int style = 39; style >= 0; style--) {
            int due = before;
            int colour = style / 4;
            int gap = style % 4;
            due(due, () -> y.setStyle(0, colour, gap));
            before = 10 * colour + gap;
        }
        refusesOtherRules((z, number) -> z.setStyle(number, 0, 0));
        says(OUT_OF_RANGE);
        Parserpark z = grammar(rule(10, 0));
        z.setStyle(0, 7, 2);
        for (int number : new int[] {MIN, -2, -1, 10, 11, 256, MAX}) {
            due(ARGUMENT, () -> z.setStyle(0, number, 1));
            due(ARGUMENT, () -> z.setStyle(0, 1, number));
            due(ARGUMENT, () -> z.setStyle(0, number, number));
        }
        due(ARGUMENT, () -> z.setStyle(0, 1, 4));
        due(72, () -> z.setStyle(0, 0, 0));
    }

    private static void rules() {
        promise(6);
        says("Returns the number of rules that are not gone.");
        Parserpark x = new Parserpark();
        due(0, () -> x.rules());
        for (int i = 1; i <= 12; i++) {
            int number = i;
            add(x, 10, 0);
            due(number, () -> x.rules());
        }
        answerOf(() -> add(x, 10, 0));
        due(12, () -> x.rules());
        says("Returns the number of rules.");
        for (int i = 11; i >= 0; i--) {
            int number = i;
            x.dropRule((i + 5) % 12);
            due(number, () -> x.rules());
        }
        answerOf(() -> x.dropRule(0));
        due(0, () -> x.rules());
    }

    // ---- texts

    private static void addText() {
        promise(7);
        says("Adds a text with one letter.");
        Parserpark x = grammar(rule(10, 3));
        x.addText(3);
        due(1, () -> x.length(0));
        due(1, () -> x.trees(0));
        due(1L, () -> x.work());
        says(LETTER);
        for (int i = 0; i <= 7; i++) {
            int letter = i;
            Parserpark y = new Parserpark();
            due(0, () -> y.addText(letter));
            due(letter, () -> y.letterAt(0, 0));
        }
        says("Returns the number of the text.");
        Parserpark z = new Parserpark();
        for (int i = 0; i < 6; i++) {
            int number = i;
            due(number, () -> z.addText(number));
            due(number, () -> z.letterAt(number, 0));
            answerOf(() -> z.addText(8));
        }
        refusesOtherLetters((y, letter) -> y.addText(letter));
        says("Throws `IllegalStateException` if there are 6 texts");
        for (int i = 0; i <= 7; i++) {
            int letter = i;
            due(STATE, () -> z.addText(letter));
        }
        due(INDEX, () -> z.length(6));
    }

    private static void addLetter() {
        promise(8);
        says("Adds a letter behind the letters of a text.");
        Parserpark x = new Parserpark();
        text(x, "a");
        text(x, "h");
        for (int i = 1; i < 10; i++) {
            int length = i;
            x.addLetter(0, length % 8);
            due(length % 8, () -> x.letterAt(0, length));
            due(length + 1, () -> x.length(0));
        }
        due("abcdefghab", () -> letters(x, 0));
        says(TEXT);
        due("h", () -> letters(x, 1));
        x.addLetter(1, 0);
        due("ha", () -> letters(x, 1));
        due(10, () -> x.length(0));
        says(LETTER);
        for (int i = 0; i <= 7; i++) {
            int letter = i;
            Parserpark y = grammar(rule(10, 0, letter));
            y.addText(0);
            due(1, () -> y.addLetter(0, letter));
            due(letter, () -> y.letterAt(0, 1));
        }
        says("Returns the number of trees of the text.");
        Parserpark z = grammar(rule(10, 0), rule(10, 10, 10), rule(10, 0, 0, 1));
        z.addText(0);
        int[] want = {1, 2, 5, 14, 42, 132, 429, 1000};
        for (int number : want) {
            due(number, () -> z.addLetter(0, 0));
            due(number, () -> z.trees(0));
        }
        // The last three letters are one part now, beside seven others.
        due(429, () -> z.addLetter(0, 1));
        refusesOtherTexts((y, number) -> y.addLetter(number, 0));
        refusesOtherLetters((y, letter) -> y.addLetter(0, letter));
        says("Throws `IllegalStateException` if the text has 10 letters");
        for (int i = 0; i <= 7; i++) {
            int letter = i;
            due(STATE, () -> x.addLetter(0, letter));
        }
        due(0, () -> x.addLetter(1, 0));
        due("abcdefghab", () -> letters(x, 0));
    }

    private static void replace() {
        promise(9);
        says("Replaces a letter of a text.");
        Parserpark x = new Parserpark();
        text(x, "aaaaaaaaaa");
        text(x, "aaa");
        x.replace(0, 5, 3);
        due("aaaaadaaaa", () -> letters(x, 0));
        says(TEXT);
        x.replace(1, 1, 4);
        due("aea", () -> letters(x, 1));
        due("aaaaadaaaa", () -> letters(x, 0));
        says("`place`: the place");
        for (int place = 0; place < 10; place++) {
            x.replace(0, place, 7 - place % 8);
        }
        due("hgfedcbahg", () -> letters(x, 0));
        says(LETTER);
        for (int i = 0; i <= 7; i++) {
            int letter = i;
            Parserpark y = grammar(rule(10, letter, 0));
            text(y, "aa");
            due(1, () -> y.replace(0, 0, letter));
            due(letter, () -> y.letterAt(0, 0));
        }
        says("Returns the number of trees of the text.");
        Parserpark z = grammar(rule(10, 0), rule(10, 10, 10), rule(10, 10, 1, 10));
        text(z, "aaaaaaa");
        due(132, () -> z.trees(0));
        due(0, () -> z.replace(0, 0, 1));
        due(0, () -> z.trees(0));
        due(132, () -> z.replace(0, 0, 0));
        due(132, () -> z.replace(0, 3, 0));
        // The six other letters are parted in five places, one of them by the new letter.
        due(42, () -> z.replace(0, 3, 1));
        due(42, () -> z.trees(0));
        due(0, () -> z.replace(0, 6, 2));
        says(NO_PLACE);
        otherTexts((y, number) -> y.replace(number, 0, 0));
        refusesOtherPlaces((y, place) -> y.replace(0, place, 0));
        refusesOtherLetters((y, letter) -> y.replace(0, 0, letter));
    }

    private static void length() {
        promise(10);
        says("Returns the number of letters of a text.");
        Parserpark x = new Parserpark();
        for (int i = 1; i <= 10; i++) {
            int length = i;
            answerOf(() -> length == 1 ? x.addText(0) : x.addLetter(0, 0));
            due(length, () -> x.length(0));
        }
        answerOf(() -> x.addLetter(0, 0));
        x.replace(0, 9, 0);
        due(10, () -> x.length(0));
        says(TEXT);
        text(x, "aaa");
        due(3, () -> x.length(1));
        due(10, () -> x.length(0));
        says("Returns the number of letters.");
        x.addLetter(1, 0);
        due(4, () -> x.length(1));
        refusesOtherTexts((y, number) -> y.length(number));
    }

    private static void letterAt() {
        promise(11);
        says("Returns a letter of a text.");
        Parserpark x = new Parserpark();
        text(x, "abcdefghhg");
        text(x, "h");
        due(3, () -> x.letterAt(0, 3));
        says(TEXT);
        due(0, () -> x.letterAt(0, 0));
        due(7, () -> x.letterAt(1, 0));
        says("`place`: the place");
        int[] places = {0, 1, 2, 3, 4, 5, 6, 7, 7, 6};
        for (int i = 0; i < 10; i++) {
            int place = i;
            due(places[place], () -> x.letterAt(0, place));
        }
        says("Returns the letter.");
        x.replace(0, 9, 0);
        due(0, () -> x.letterAt(0, 9));
        says(NO_PLACE);
        due(INDEX, () -> x.letterAt(1, 1));
        otherTexts((y, number) -> y.letterAt(number, 0));
        refusesOtherPlaces((y, place) -> y.letterAt(0, place));
    }

    // ---- trees

    private static void trees() {
        promise(12);
        says("Returns the number of trees of a text, as it is kept for its spans.");
        Parserpark x = grammar(rule(10, 0), rule(10, 10, 10));
        int[] want = {1, 1, 2, 5, 14, 42, 132, 429, 1000, 1000};
        for (int i = 0; i < 10; i++) {
            int length = i + 1;
            answerOf(() -> length == 1 ? x.addText(0) : x.addLetter(0, 0));
            due(want[i], () -> x.trees(0));
            due(want[i], () -> x.treesOver(0, 10, 0, length - 1));
        }
        says(TEXT);
        text(x, "aaa");
        text(x, "b");
        due(2, () -> x.trees(1));
        due(0, () -> x.trees(2));
        due(1000, () -> x.trees(0));
        says("Returns the number of trees.");
        x.dropRule(1);
        due(0, () -> x.trees(1));
        add(x, 10, 0, 0, 0);
        due(1, () -> x.trees(1));
        refusesOtherTexts((y, number) -> y.trees(number));
    }

    private static void treesByTrying() {
        promise(13);
        says("Returns the same number, found by trying all rules and all parts, from the whole text on.");
        for (String letters : new String[] {"a", "b", "ab", "aa", "aba", "aaa", "abaa", "aaba", "aabaa", "aaaaa", "aaaab"}) {
            Parserpark mixed = grammar(rule(10, 0), rule(10, 10, 10), rule(10, 11), rule(11, 10, 12, 10), rule(12, 1),
                    rule(12, 13), rule(10, 0, 12), rule(13, 0), rule(11, 13, 0), rule(13, 0, 0));
            text(mixed, letters);
            due(mixed.trees(0), () -> mixed.treesByTrying(0));
            mixed.dropRule(1);
            due(mixed.trees(0), () -> mixed.treesByTrying(0));
        }
        Parserpark x = grammar(rule(10, 0));
        says(TEXT);
        text(x, "a");
        text(x, "b");
        due(1, () -> x.treesByTrying(0));
        due(0, () -> x.treesByTrying(1));
        says("Returns the number of trees.");
        Parserpark counted = grammar(rule(10, 0), rule(10, 10, 10), rule(10, 10, 10, 10));
        int[] want = {1, 1, 3, 10, 38};
        for (int i = 0; i < 5; i++) {
            int length = i + 1;
            answerOf(() -> length == 1 ? counted.addText(0) : counted.addLetter(0, 0));
            due(want[i], () -> counted.treesByTrying(0));
        }
        // The deepest trial: five rules over each of five spans.
        Parserpark deepest = grammar(rule(14, 0, 10), rule(10, 11), rule(11, 12), rule(12, 13), rule(13, 14), rule(14, 0));
        text(deepest, "aaaaa");
        due(1, () -> deepest.treesByTrying(0));
        due(25, () -> deepest.depth(0));
        due(true, () -> deepest.isSound());
        refusesOtherTexts((y, number) -> y.treesByTrying(number));
        says("Throws `UnsupportedOperationException` if it has more than 5 letters");
        for (int length = 1; length <= 10; length++) {
            Parserpark y = grammar(rule(10, 0));
            text(y, repeat('a', length));
            Object due = length > 5 ? UNSUPPORTED : (Object) (length == 1 ? 1 : 0);
            due(due, () -> y.treesByTrying(0));
        }
    }

    private static void treesOver() {
        promise(14);
        says("Returns the number of trees of a name over a span of a text.");
        Parserpark x = grammar(rule(10, 0), rule(10, 10, 10), rule(12, 10, 1), rule(14, 7));
        text(x, "aaaab");
        text(x, "h");
        int[] catalan = {1, 1, 2, 5};
        for (int i = 0; i < 4; i++) {
            for (int j = i; j < 4; j++) {
                int from = i;
                int to = j;
                due(catalan[to - from], () -> x.treesOver(0, 10, from, to));
            }
        }
        says(TEXT);
        due(0, () -> x.treesOver(0, 14, 0, 0));
        due(1, () -> x.treesOver(1, 14, 0, 0));
        says("`name`: the name");
        due(5, () -> x.treesOver(0, 12, 0, 4));
        due(0, () -> x.treesOver(0, 11, 0, 4));
        due(0, () -> x.treesOver(0, 10, 0, 4));
        says("`from`: the place of the first letter of the span");
        due(2, () -> x.treesOver(0, 12, 1, 4));
        due(1, () -> x.treesOver(0, 12, 3, 4));
        due(0, () -> x.treesOver(0, 12, 4, 4));
        says("`to`: the place of its last letter, not less than that of the first one");
        due(0, () -> x.treesOver(0, 12, 0, 3));
        due(1, () -> x.treesOver(0, 10, 3, 3));
        due(ARGUMENT, () -> x.treesOver(0, 10, 3, 2));
        says("Returns the number of trees.");
        text(x, "aaaaaaaaaa");
        due(1000, () -> x.treesOver(2, 10, 0, 9));
        due(1000, () -> x.treesOver(2, 10, 1, 9));
        due(429, () -> x.treesOver(2, 10, 1, 8));
        says("Throws `IndexOutOfBoundsException` if there is no such text or no such place in it, for either");
        otherTexts((y, number) -> y.treesOver(number, 10, 0, 0));
        refusesOtherPlaces((y, place) -> y.treesOver(0, 10, place, y.length(0) - 1));
        refusesOtherPlaces((y, place) -> y.treesOver(0, 10, 0, place));
        refusesOtherPlaces((y, place) -> y.treesOver(0, 10, place, place));
        says("Throws `IllegalArgumentException` if there is no such name, or the last place is less than the first one");
        for (int i = -3; i <= 20; i++) {
            int name = i;
            boolean there = name >= 10 && name <= 14;
            due(!there, () -> ARGUMENT.equals(answerOf(() -> x.treesOver(2, name, 0, 9))));
        }
        due(ARGUMENT, () -> x.treesOver(2, MIN, 0, 0));
        due(ARGUMENT, () -> x.treesOver(2, MAX, 0, 0));
        for (int i = 0; i < 10; i++) {
            for (int j = 0; j < 10; j++) {
                int from = i;
                int to = j;
                due(to < from, () -> ARGUMENT.equals(answerOf(() -> x.treesOver(2, 11, from, to))));
            }
        }
    }

    /** The greatest tree that there can be: each of 19 spans has a tree of five rules, one for each name. */
    private static Parserpark greatestTree() {
        Parserpark x = grammar(rule(10, 11), rule(11, 12), rule(12, 13), rule(13, 14), rule(14, 0), rule(14, 10, 10));
        text(x, repeat('a', 10));
        return x;
    }

    /** A tree that leans to the left: above its lowest rule, all ten letters stand beside one another. */
    private static Parserpark leaningTree() {
        Parserpark x = grammar(rule(10, 10, 1, 2), rule(10, 0, 0));
        x.setStyle(0, 6, 1);
        text(x, "aabcbcbcbc");
        return x;
    }

    private static void size() {
        promise(15);
        says("Returns the number of rules in the chosen tree of a text, each one counted as often as it stands there.");
        Parserpark x = grammar(rule(10, 0), rule(10, 10, 10), rule(10, 0, 0, 0));
        text(x, "a");
        text(x, "aaa");
        text(x, "b");
        due(5, () -> x.size(1));
        due(95, () -> greatestTree().size(0));
        due(5, () -> leaningTree().size(0));
        says(TEXT);
        due(1, () -> x.size(0));
        due(5, () -> x.size(1));
        says("Returns the number of rules, 0 if there is no tree.");
        due(0, () -> x.size(2));
        x.setRank(2, 1);
        due(1, () -> x.size(1));
        x.dropRule(0);
        due(0, () -> x.size(0));
        due(0, () -> oneText().size(0));
        refusesOtherTexts((y, number) -> y.size(number));
    }

    private static void ruleAt() {
        promise(16);
        says("Returns a rule of the chosen tree of a text, each one ahead of those of its parts, from the first part to the"
                + " last.");
        Parserpark x = grammar(rule(10, 11, 12, 11), rule(12, 13, 14), rule(11, 0, 13), rule(13, 1), rule(14, 13, 0),
                rule(10, 2));
        text(x, "abbbaab");
        text(x, "c");
        text(x, "a");
        due("0 2 3 1 3 4 3 2 3", () -> row(x, 0));
        due("0 0 0 0 1", () -> row(leaningTree(), 0));
        says(TEXT);
        due("5", () -> row(x, 1));
        due(0, () -> x.ruleAt(0, 0));
        due(5, () -> x.ruleAt(1, 0));
        says("`index`: the index, from 0");
        int[] want = {0, 2, 3, 1, 3, 4, 3, 2, 3};
        for (int i = 0; i < want.length; i++) {
            int index = i;
            due(want[index], () -> x.ruleAt(0, index));
        }
        says("Returns the number of the rule.");
        Parserpark twelve = new Parserpark();
        for (int i = 0; i < 12; i++) {
            add(twelve, 10, 0);
        }
        twelve.addText(0);
        for (int i = 0; i < 11; i++) {
            twelve.dropRule(i);
        }
        due(11, () -> twelve.ruleAt(0, 0));
        refusesOtherTexts((y, number) -> y.ruleAt(number, 0));
        says(NO_INDEX);
        for (int index : FAR_OFF) {
            due(ELEMENT, () -> x.ruleAt(0, index));
            due(ELEMENT, () -> x.ruleAt(2, index));
        }
        due(ELEMENT, () -> x.ruleAt(0, 9));
        due(ELEMENT, () -> x.ruleAt(1, 1));
        due(ELEMENT, () -> x.ruleAt(2, 0));
        Parserpark greatest = greatestTree();
        due(4, () -> greatest.ruleAt(0, 94));
        due(ELEMENT, () -> greatest.ruleAt(0, 95));
        // An index of an earlier question's tree is none of this one's.
        due(ELEMENT, () -> x.ruleAt(1, 8));
    }

    private static void depth() {
        promise(17);
        says("Returns the depth of the chosen tree of a text: the greatest number of rules from its top down to a letter.");
        Parserpark x = grammar(rule(10, 11, 0, 12), rule(11, 13), rule(13, 14), rule(14, 1), rule(12, 2), rule(10, 2));
        text(x, "bac");
        due(4, () -> x.depth(0));
        // The deepest part is the last one, or one in the middle.
        due(3, () -> depthOf("cab", rule(10, 12, 0, 11), rule(11, 13), rule(13, 1), rule(12, 2)));
        due(3, () -> depthOf("abc", rule(10, 0, 11, 12), rule(11, 13), rule(13, 1), rule(12, 2)));
        due(50, () -> greatestTree().depth(0));
        due(5, () -> leaningTree().depth(0));
        due(1, () -> depthOf("aaa", rule(10, 0, 0, 0)));
        says(TEXT);
        text(x, "c");
        due(1, () -> x.depth(1));
        due(4, () -> x.depth(0));
        says("Returns the depth, 0 if there is no tree.");
        text(x, "a");
        due(0, () -> x.depth(2));
        x.dropRule(5);
        due(0, () -> x.depth(1));
        refusesOtherTexts((y, number) -> y.depth(number));
    }

    private static int depthOf(String letters, int[]... rules) {
        Parserpark x = grammar(rules);
        text(x, letters);
        return x.depth(0);
    }

    private static void colourAt() {
        promise(18);
        says("Returns the colour of a letter.");
        Parserpark x = grammar(rule(10, 11, 12), rule(11, 0), rule(12, 11, 1), rule(10, 2));
        text(x, "aab");
        text(x, "c");
        text(x, "bb");
        x.setStyle(1, 3, 0);
        x.setStyle(2, 8, 0);
        due(3, () -> x.colourAt(0, 0));
        due("6666666666", () -> colours(leaningTree(), 0));
        says(TEXT);
        x.setStyle(3, 9, 0);
        due(9, () -> x.colourAt(1, 0));
        due(3, () -> x.colourAt(0, 0));
        says("`place`: the place");
        due(3, () -> x.colourAt(0, 1));
        due(8, () -> x.colourAt(0, 2));
        x.setStyle(1, 0, 0);
        due(0, () -> x.colourAt(0, 0));
        due(8, () -> x.colourAt(0, 1));
        says("Returns the colour, 0 if there is no tree.");
        due(0, () -> x.colourAt(2, 0));
        due(0, () -> x.colourAt(2, 1));
        due(9, () -> x.colourAt(1, 0));
        x.dropRule(3);
        due(0, () -> x.colourAt(1, 0));
        says(NO_PLACE);
        due(INDEX, () -> x.colourAt(1, 1));
        due(INDEX, () -> x.colourAt(2, 2));
        otherTexts((y, number) -> y.colourAt(number, 0));
        refusesOtherPlaces((y, place) -> y.colourAt(0, place));
    }

    private static void formatted() {
        promise(19);
        says("Returns the length of the formatted form of the chosen tree of a text.");
        Parserpark x = grammar(rule(10, 0, 11, 0), rule(11, 1, 1), rule(10, 2));
        text(x, "abba");
        text(x, "c");
        text(x, "ab");
        due(4, () -> x.formatted(0));
        x.setStyle(0, 0, 3);
        due(10, () -> x.formatted(0));
        x.setStyle(1, 0, 1);
        due(11, () -> x.formatted(0));
        Parserpark longest = grammar(rule(10, 0), rule(10, 10, 10));
        text(longest, repeat('a', 10));
        longest.setStyle(1, 0, 3);
        due(10 + 9 * 3, () -> longest.formatted(0));
        due("a   a   a   a   a   a   a   a   a   a", () -> form(longest, 0));
        due("aa b c b c b c b c", () -> form(leaningTree(), 0));
        says(TEXT);
        due(1, () -> x.formatted(1));
        due(11, () -> x.formatted(0));
        says("Returns the number of signs, 0 if there is no tree.");
        due(0, () -> x.formatted(2));
        x.dropRule(1);
        due(0, () -> x.formatted(0));
        refusesOtherTexts((y, number) -> y.formatted(number));
    }

    private static void formattedAt() {
        promise(20);
        says("Returns a sign of the formatted form of the chosen tree of a text.");
        Parserpark x = grammar(rule(10, 0, 7), rule(10, 2));
        text(x, "ah");
        text(x, "c");
        text(x, "aa");
        x.setStyle(0, 0, 2);
        due("a  h", () -> form(x, 0));
        says(TEXT);
        due('c', () -> x.formattedAt(1, 0));
        due('a', () -> x.formattedAt(0, 0));
        says("`index`: the index, from 0");
        char[] want = {'a', ' ', ' ', 'h'};
        for (int i = 0; i < 4; i++) {
            int index = i;
            due(want[index], () -> x.formattedAt(0, index));
        }
        says("Returns 'a' to 'h', or ' '.");
        for (int i = 0; i <= 7; i++) {
            int letter = i;
            Parserpark y = grammar(rule(10, letter, letter, letter));
            String sign = String.valueOf((char) ('a' + letter));
            text(y, sign.repeat(3));
            y.setStyle(0, 0, 1);
            due(sign + " " + sign + " " + sign, () -> form(y, 0));
        }
        refusesOtherTexts((y, number) -> y.formattedAt(number, 0));
        says(NO_INDEX);
        for (int index : FAR_OFF) {
            due(ELEMENT, () -> x.formattedAt(0, index));
            due(ELEMENT, () -> x.formattedAt(2, index));
        }
        due(ELEMENT, () -> x.formattedAt(0, 4));
        due(ELEMENT, () -> x.formattedAt(1, 1));
        due(ELEMENT, () -> x.formattedAt(2, 0));
        Parserpark longest = grammar(rule(10, 0), rule(10, 10, 10));
        text(longest, repeat('a', 10));
        longest.setStyle(1, 0, 3);
        due('a', () -> longest.formattedAt(0, 36));
        due(' ', () -> longest.formattedAt(0, 35));
        due(ELEMENT, () -> longest.formattedAt(0, 37));
    }

    // ---- acceptance and releases

    private static void accept() {
        promise(21);
        says("Accepts the chosen tree of a text, in place of an earlier one.");
        Parserpark x = grammar(rule(10, 0), rule(10, 0, 0), rule(10, 10, 10));
        text(x, "aa");
        text(x, "a");
        x.accept(0);
        x.dropRule(2);
        due('-', () -> x.fault(0));
        add(x, 10, 0, 0);
        x.setRank(3, 1);
        x.accept(0);
        x.dropRule(3);
        due('x', () -> x.fault(0));
        x.accept(0);
        due('-', () -> x.fault(0));
        says(TEXT);
        due('u', () -> x.fault(1));
        x.accept(1);
        due('-', () -> x.fault(1));
        says("Returns the number of rules in it.");
        Parserpark y = grammar(rule(10, 0), rule(10, 10, 10));
        y.addText(0);
        for (int i = 1; i <= 10; i++) {
            int length = i;
            due(2 * length - 1, () -> y.accept(0));
            answerOf(() -> y.addLetter(0, 0));
        }
        due(95, () -> greatestTree().accept(0));
        refusesOtherTexts((z, number) -> z.accept(number));
        says("Throws `IllegalStateException` if there is no tree");
        Parserpark none = grammar(rule(11, 0), rule(10, 0, 0));
        text(none, "a");
        due(STATE, () -> none.accept(0));
        due('n', () -> none.fault(0));
        none.addLetter(0, 0);
        due('u', () -> none.fault(0));
        due(1, () -> none.accept(0));
        none.addLetter(0, 0);
        due(STATE, () -> none.accept(0));
        Parserpark kept = grammar(rule(10, 0));
        text(kept, "a");
        kept.accept(0);
        kept.replace(0, 0, 1);
        due(STATE, () -> kept.accept(0));
        kept.replace(0, 0, 0);
        due('-', () -> kept.fault(0));
    }

    private static void fault() {
        promise(22);
        says("Returns the fault of a text.");
        Parserpark x = grammar(rule(10, 0), rule(10, 1), rule(10, 1), rule(10, 2), rule(10, 3));
        text(x, "e");
        text(x, "b");
        text(x, "a");
        text(x, "c");
        x.accept(3);
        x.dropRule(3);
        add(x, 10, 2);
        text(x, "d");
        x.accept(4);
        due('u', () -> x.fault(2));
        says(TEXT);
        due('n', () -> x.fault(0));
        due('a', () -> x.fault(1));
        due('x', () -> x.fault(3));
        due('-', () -> x.fault(4));
        says("Returns 'n', 'a', 'u', 'x' or '-'.");
        Parserpark y = new Parserpark();
        text(y, "a");
        due('n', () -> y.fault(0));
        add(y, 10, 0);
        due('u', () -> y.fault(0));
        y.accept(0);
        due('-', () -> y.fault(0));
        add(y, 10, 0);
        due('a', () -> y.fault(0));
        y.dropRule(0);
        due('x', () -> y.fault(0));
        y.dropRule(1);
        due('n', () -> y.fault(0));
        refusesOtherTexts((z, number) -> z.fault(number));
    }

    private static void release() {
        promise(23);
        says("Makes a release.");
        Parserpark x = grammar(rule(10, 0));
        text(x, "a");
        due(UNSUPPORTED, () -> x.release());
        x.accept(0);
        due(1, () -> x.release());
        says("Returns the number of releases that were made.");
        due(2, () -> x.release());
        x.replace(0, 0, 1);
        due(UNSUPPORTED, () -> x.release());
        due(UNSUPPORTED, () -> x.release());
        x.replace(0, 0, 0);
        due(3, () -> x.release());
        says("Throws `IllegalStateException` if there are no texts");
        due(STATE, () -> new Parserpark().release());
        due(STATE, () -> grammar(rule(10, 0)).release());
        says("Throws `UnsupportedOperationException` if a text has a fault");
        for (int texts = 1; texts <= 6; texts++) {
            for (int faulty = 0; faulty < texts; faulty++) {
                oneFaultyOf(texts, faulty);
            }
        }
    }

    /** Each of the faults, at each of the texts, bars a release, and none bars it when it has gone. */
    private static void oneFaultyOf(int texts, int faulty) {
        Parserpark x = grammar(rule(10, 0), rule(10, 1));
        for (int text = 0; text < texts; text++) {
            x.addText(text == faulty ? 1 : 0);
            due(UNSUPPORTED, () -> x.release());
            if (text != faulty) {
                x.accept(text);
            }
        }
        due('u', () -> x.fault(faulty));
        due(UNSUPPORTED, () -> x.release());
        x.accept(faulty);
        due(1, () -> x.release());
        add(x, 10, 1);
        due('a', () -> x.fault(faulty));
        due(UNSUPPORTED, () -> x.release());
        x.dropRule(1);
        due('x', () -> x.fault(faulty));
        due(UNSUPPORTED, () -> x.release());
        x.accept(faulty);
        due(2, () -> x.release());
        x.dropRule(2);
        due('n', () -> x.fault(faulty));
        due(UNSUPPORTED, () -> x.release());
        x.replace(faulty, 0, 0);
        x.accept(faulty);
        due(3, () -> x.release());
    }

    // ---- ambiguities and figures

    private static void ambiguous() {
        promise(24);
        says("Returns the length of the shortest row of letters, of the letters 0 up to a number, that has several trees as a"
                + " text.");
        Parserpark x = grammar(rule(10, 2), rule(10, 2), rule(10, 1, 1), rule(10, 1, 1), rule(10, 0, 0, 0),
                rule(10, 0, 0, 0));
        due(1, () -> x.ambiguous(3, 4));
        due(2, () -> x.ambiguous(2, 4));
        due(3, () -> x.ambiguous(1, 4));
        says("`letters`: the number of letters, 1 to 3");
        Parserpark one = grammar(rule(10, 0), rule(10, 0));
        Parserpark two = grammar(rule(10, 1), rule(10, 1));
        Parserpark three = grammar(rule(10, 2), rule(10, 2));
        Parserpark four = grammar(rule(10, 3), rule(10, 3));
        for (int i = 1; i <= 3; i++) {
            int letters = i;
            due(1, () -> one.ambiguous(letters, 4));
            due(letters >= 2 ? 1 : ELEMENT, () -> two.ambiguous(letters, 4));
            due(letters >= 3 ? 1 : ELEMENT, () -> three.ambiguous(letters, 4));
            due(ELEMENT, () -> four.ambiguous(letters, 4));
        }
        says("`longest`: the greatest length that is looked at, 1 to 4");
        for (int length = 1; length <= 5; length++) {
            for (int most = 1; most <= 4; most++) {
                int due = length;
                int longest = most;
                Parserpark y = onlyAmbiguous(length);
                due(due <= longest ? due : ELEMENT, () -> y.ambiguous(1, longest));
                due(due <= longest ? due : ELEMENT, () -> y.ambiguous(3, longest));
            }
        }
        says("Returns the length.");
        due(4, () -> onlyAmbiguous(4).ambiguous(2, 4));
        x.dropRule(0);
        due(2, () -> x.ambiguous(3, 4));
        x.dropRule(2);
        due(3, () -> x.ambiguous(3, 4));
        says(OUT_OF_RANGE);
        refusesOtherSizes((y, letters, longest) -> y.ambiguous(letters, longest));
        says("Throws `NoSuchElementException` if there is no such row");
        due(ELEMENT, () -> new Parserpark().ambiguous(3, 4));
        Parserpark single = grammar(rule(10, 0), rule(10, 1), rule(10, 2), rule(10, 0, 10), rule(10, 1, 10), rule(10, 2, 10));
        due(ELEMENT, () -> single.ambiguous(3, 4));
        // Two trees of another name are not two trees of a text.
        Parserpark other = grammar(rule(11, 0), rule(11, 0), rule(10, 1), rule(14, 0), rule(14, 0));
        due(ELEMENT, () -> other.ambiguous(3, 4));
        add(other, 10, 11);
        due(1, () -> other.ambiguous(3, 4));
    }

    /** Rows of so many letters 0 alone have several trees. */
    private static Parserpark onlyAmbiguous(int length) {
        Parserpark x = new Parserpark();
        for (int i = 0; i < 2; i++) {
            if (length == 1) {
                add(x, 10, 0);
            } else if (length == 2) {
                add(x, 10, 0, 0);
            } else if (length == 3) {
                add(x, 10, 0, 0, 0);
            } else if (length == 4) {
                add(x, 10, 0, 11, 0);
            } else {
                add(x, 10, 11, 0, 11);
            }
        }
        add(x, 11, 0, 0);
        return x;
    }

    private interface SizesCall {
        Object answer(Parserpark x, int letters, int longest);
    }

    private static void refusesOtherSizes(SizesCall call) {
        Parserpark x = grammar(rule(10, 0), rule(10, 0));
        for (int number : FAR_OFF) {
            due(ARGUMENT, () -> call.answer(x, number, 1));
            due(ARGUMENT, () -> call.answer(x, 1, number));
        }
        for (int i = 0; i <= 6; i++) {
            for (int j = 0; j <= 6; j++) {
                int letters = i;
                int longest = j;
                boolean inside = letters >= 1 && letters <= 3 && longest >= 1 && longest <= 4;
                due(!inside, () -> ARGUMENT.equals(answerOf(() -> call.answer(x, letters, longest))));
            }
        }
    }

    private static String ambiguousRow(Parserpark x, int letters, int longest) {
        StringBuilder row = new StringBuilder();
        for (int place = 0; place < x.ambiguous(letters, longest); place++) {
            row.append(x.ambiguousAt(letters, longest, place));
        }
        return row.toString();
    }

    private static void ambiguousAt() {
        promise(25);
        says("Returns a letter of this row; of several rows of this length, of the one that has the lower letter at the first"
                + " place at which they differ.");
        int[][] rows = {{2, 2, 2}, {2, 2, 1}, {2, 1, 2}, {2, 0, 2}, {1, 2, 2}, {1, 2, 0}};
        Parserpark x = new Parserpark();
        for (int[] row : rows) {
            add(x, 10, row);
            add(x, 10, row);
        }
        String[] want = {"120", "122", "202", "212", "221", "222"};
        for (int i = 0; i < 6; i++) {
            int last = 11 - 2 * i;
            due(want[i], () -> ambiguousRow(x, 3, 4));
            x.dropRule(last);
        }
        due(ELEMENT, () -> ambiguousRow(x, 3, 4));
        // A shorter row goes ahead, though its letters are greater.
        Parserpark y = grammar(rule(10, 2, 2), rule(10, 2, 2), rule(10, 0, 0, 0), rule(10, 0, 0, 0), rule(10, 1, 1, 1),
                rule(10, 1, 1, 1));
        due("22", () -> ambiguousRow(y, 3, 4));
        due("000", () -> ambiguousRow(y, 2, 4));
        says("`letters`: the number of letters, 1 to 3");
        due("000", () -> ambiguousRow(y, 1, 4));
        y.dropRule(2);
        due("111", () -> ambiguousRow(y, 2, 4));
        due(ELEMENT, () -> ambiguousRow(y, 1, 4));
        says("`longest`: the greatest length that is looked at, 1 to 4");
        for (int most = 1; most <= 4; most++) {
            int longest = most;
            due(longest == 4 ? 0 : ELEMENT, () -> onlyAmbiguous(4).ambiguousAt(3, longest, 3));
            due(longest >= 2 ? 2 : ELEMENT, () -> y.ambiguousAt(3, longest, 1));
            due(longest >= 3 ? 1 : ELEMENT, () -> y.ambiguousAt(2, longest, 2));
        }
        says("`place`: the place, from 0");
        Parserpark z = grammar(rule(10, 2, 11, 1), rule(10, 2, 11, 1), rule(11, 1, 0));
        int[] letters = {2, 1, 0, 1};
        for (int i = 0; i < 4; i++) {
            int place = i;
            due(letters[place], () -> z.ambiguousAt(3, 4, place));
        }
        says("Returns the letter.");
        due("2101", () -> ambiguousRow(z, 3, 4));
        // The very last row of all.
        Parserpark last = grammar(rule(10, 2, 11, 2), rule(10, 2, 11, 2), rule(11, 2, 2));
        due("2222", () -> ambiguousRow(last, 3, 4));
        says(OUT_OF_RANGE);
        refusesOtherSizes((w, kinds, longest) -> w.ambiguousAt(kinds, longest, 0));
        says("Throws `NoSuchElementException` if there is no such row, or no such place in it");
        due(ELEMENT, () -> new Parserpark().ambiguousAt(3, 4, 0));
        due(ELEMENT, () -> z.ambiguousAt(2, 4, 0));
        due(ELEMENT, () -> z.ambiguousAt(3, 3, 0));
        for (int place : FAR_OFF) {
            due(ELEMENT, () -> z.ambiguousAt(3, 4, place));
            due(ELEMENT, () -> y.ambiguousAt(3, 4, place));
        }
        due(ELEMENT, () -> z.ambiguousAt(3, 4, 4));
        due(ELEMENT, () -> y.ambiguousAt(3, 4, 2));
        due(ELEMENT, () -> grammar(rule(10, 0), rule(10, 0)).ambiguousAt(3, 4, 1));
    }

    private static void work() {
        promise(26);
        says("Returns the work.");
        Parserpark x = new Parserpark();
        due(0L, () -> x.work());
        x.addText(0);
        due(1L, () -> x.work());
        says("Returns the number of spans.");
        x.addLetter(0, 1);
        due(3L, () -> x.work());
        x.replace(0, 0, 0);
        due(5L, () -> x.work());
        add(x, 10, 0, 1);
        due(8L, () -> x.work());
        x.dropRule(0);
        due(11L, () -> x.work());
        add(x, 10, 2);
        due(11L, () -> x.work());
    }

    private static void cleanShare() {
        promise(27);
        says("Returns the share of the texts that have no fault.");
        Parserpark x = grammar(rule(10, 0));
        text(x, "a");
        due(0.0f, () -> x.cleanShare());
        x.accept(0);
        due(1.0f, () -> x.cleanShare());
        says("Returns their number divided by that of all texts, both converted to float.");
        for (int texts = 1; texts <= 6; texts++) {
            Parserpark y = grammar(rule(10, 0));
            for (int text = 0; text < texts; text++) {
                y.addText(0);
            }
            for (int clean = 0; clean <= texts; clean++) {
                float share = (float) clean / (float) texts;
                due(share, () -> y.cleanShare());
                if (clean < texts) {
                    y.accept(texts - 1 - clean);
                }
            }
        }
        // Each of the faults counts.
        Parserpark z = grammar(rule(10, 0), rule(10, 1), rule(10, 2));
        text(z, "a");
        text(z, "b");
        text(z, "c");
        text(z, "d");
        z.accept(0);
        z.accept(1);
        z.accept(2);
        due(0.75f, () -> z.cleanShare());
        add(z, 10, 1);
        due(0.5f, () -> z.cleanShare());
        z.dropRule(1);
        due(0.5f, () -> z.cleanShare());
        z.dropRule(0);
        due(0.25f, () -> z.cleanShare());
        says("Throws `ArithmeticException` if there are no texts");
        due(ARITHMETIC, () -> new Parserpark().cleanShare());
        due(ARITHMETIC, () -> grammar(rule(10, 0)).cleanShare());
    }

    private static void meanTrees() {
        promise(28);
        says("Returns the mean number of trees of all texts.");
        Parserpark x = grammar(rule(10, 0), rule(10, 10, 10));
        text(x, "aaa");
        due(2.0, () -> x.meanTrees());
        text(x, "b");
        due(1.0, () -> x.meanTrees());
        says("Returns the sum of the numbers divided by that of the texts, both converted to double.");
        text(x, "aaaaa");
        due(16.0 / 3.0, () -> x.meanTrees());
        text(x, "aaaaaaaa");
        due(445.0 / 4.0, () -> x.meanTrees());
        text(x, "aaaaaaaaaa");
        due(1445.0 / 5.0, () -> x.meanTrees());
        text(x, "aaaaaaaaaa");
        due(2445.0 / 6.0, () -> x.meanTrees());
        due(0.0, () -> oneText().meanTrees());
        Parserpark y = grammar(rule(10, 0), rule(10, 10, 10));
        for (int text = 0; text < 6; text++) {
            text(y, "aaaaaaaaa");
            due(1000.0, () -> y.meanTrees());
        }
        says("Throws `ArithmeticException` if there are no texts");
        due(ARITHMETIC, () -> new Parserpark().meanTrees());
        due(ARITHMETIC, () -> grammar(rule(10, 0)).meanTrees());
    }

    private static void isSound() {
        promise(29);
        says("Checks whether, for each text with at most 5 letters, both ways of its number of trees agree, and, for each text,"
                + " its numbers of trees would be the same if all spans were found anew, and its chosen tree, if there is one,"
                + " has as many letters as it has.");
        due(true, () -> new Parserpark().isSound());
        Parserpark x = grammar(rule(10, 0), rule(10, 10, 10), rule(10, 10, 11, 10), rule(11, 1), rule(12, 3));
        for (int length : new int[] {1, 4, 5, 6, 9, 10}) {
            text(x, repeat('a', length));
            due(true, () -> x.isSound());
        }
        for (int text = 0; text < 6; text++) {
            x.replace(text, x.length(text) / 2, 1);
            due(true, () -> x.isSound());
        }
        x.dropRule(2);
        due(true, () -> x.isSound());
        add(x, 10, 11, 0);
        due(true, () -> x.isSound());
        says("Returns whether all of this holds.");
        long before = x.work();
        due(true, () -> x.isSound());
        due(before, () -> x.work());
        due(true, () -> greatestTree().isSound());
    }
}
