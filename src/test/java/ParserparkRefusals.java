import java.io.IOException;

/** The document's sentences on exceptions: a refused call changes nothing, and the first listed exception is thrown. */
public final class ParserparkRefusals extends Sentences {
    public static void main(String[] args) throws IOException {
        readDocument();
        partOfSection("Terms");
        refusedCallsChangeNothing();
        firstListedException();
        end();
    }

    private static void refusedCallsChangeNothing() {
        says("A method that throws an exception changes nothing.");
        refusedWithSomeTexts();
        refusedWhereAllIsFull();
        refusedWithoutTexts();
    }

    private interface Made {
        Parserpark make();
    }

    private interface Refused {
        Object answer(Parserpark x);
    }

    /** The call is refused, and then all that can be asked and done is as if it had not been made. */
    private static void refused(Made made, Class<?> exception, Refused call) {
        String want = tour(made.make());
        Parserpark x = made.make();
        due(exception, () -> call.answer(x));
        due(want, () -> tour(x));
    }

    /** All answers that can tell one state from another; less than 450 calls for the states below. */
    private static String tour(Parserpark x) {
        StringBuilder answers = new StringBuilder();
        put(answers, () -> x.rules());
        put(answers, () -> x.work());
        put(answers, () -> x.cleanShare());
        put(answers, () -> x.meanTrees());
        put(answers, () -> x.ambiguous(3, 4));
        put(answers, () -> x.isSound());
        for (int i = 0; i < 6; i++) {
            int text = i;
            put(answers, () -> letters(x, text));
            put(answers, () -> x.trees(text));
            put(answers, () -> numbers(x, text, 10));
            put(answers, () -> row(x, text));
            put(answers, () -> form(x, text));
            put(answers, () -> colours(x, text));
            put(answers, () -> x.fault(text));
            put(answers, () -> x.replace(text, 0, 0));
            put(answers, () -> x.fault(text));
        }
        put(answers, () -> x.release());
        for (int i = 0; i < 12; i++) {
            int rule = i;
            put(answers, () -> x.setRank(rule, 0));
            put(answers, () -> x.setStyle(rule, 0, 0));
            put(answers, () -> x.dropRule(rule));
        }
        releaseOfNewLetters(x, answers);
        return answers.toString();
    }

    /** New rules and texts have the next numbers, and a new release counts on. */
    private static void releaseOfNewLetters(Parserpark x, StringBuilder answers) {
        put(answers, () -> add(x, 10, 7));
        put(answers, () -> add(x, 10, 7, 7));
        put(answers, () -> x.addText(7));
        for (int i = 0; i < 6; i++) {
            int text = i;
            put(answers, () -> x.replace(text, 0, 7));
            put(answers, () -> x.replace(text, 1, 7));
            put(answers, () -> x.accept(text));
        }
        put(answers, () -> x.work());
        put(answers, () -> x.release());
    }

    private static void put(StringBuilder answers, Call call) {
        answers.append(answerOf(call)).append(' ');
    }

    /** Texts without a fault, with several trees, without a tree, and without an accepted one. */
    private static Parserpark someTexts() {
        Parserpark x = grammar(rule(10, 0), rule(10, 10, 10), rule(11, 1), rule(10, 12), rule(12, 3), rule(10, 3, 3));
        text(x, "a");
        x.accept(0);
        x.release();
        x.release();
        x.dropRule(2);
        x.setRank(5, 4);
        x.setStyle(0, 3, 1);
        x.setStyle(1, 5, 2);
        text(x, "dd");
        text(x, "bb");
        text(x, "d");
        return x;
    }

    private static void refusedWithSomeTexts() {
        due("4 a - dd a bb n d u", () -> {
            Parserpark x = someTexts();
            StringBuilder faults = new StringBuilder("4");
            for (int text = 0; text < 4; text++) {
                faults.append(' ').append(letters(x, text)).append(' ').append(x.fault(text));
            }
            return faults.toString();
        });
        Made made = () -> someTexts();
        refused(made, ARGUMENT, x -> x.addRule(9, 0, NONE, NONE));
        refused(made, ARGUMENT, x -> x.addRule(10, 8, 0, 0));
        refused(made, ARGUMENT, x -> x.addRule(10, 0, NONE, 0));
        refused(made, ARGUMENT, x -> x.addRule(12, 12, NONE, NONE));
        refused(made, ELEMENT, x -> x.dropRule(2));
        refused(made, ELEMENT, x -> x.dropRule(6));
        refused(made, ELEMENT, x -> x.setRank(2, 1));
        refused(made, ELEMENT, x -> x.setRank(6, 1));
        refused(made, ARGUMENT, x -> x.setRank(5, 10));
        refused(made, ARGUMENT, x -> x.setRank(5, -1));
        refused(made, ELEMENT, x -> x.setStyle(2, 1, 1));
        refused(made, ARGUMENT, x -> x.setStyle(0, 10, 2));
        refused(made, ARGUMENT, x -> x.setStyle(0, 9, 4));
        refused(made, ARGUMENT, x -> x.setStyle(0, -1, 2));
        refused(made, ARGUMENT, x -> x.setStyle(0, 9, -1));
        refused(made, ARGUMENT, x -> x.addText(8));
        refused(made, ARGUMENT, x -> x.addText(-1));
        refused(made, INDEX, x -> x.addLetter(4, 0));
        refused(made, ARGUMENT, x -> x.addLetter(0, 8));
        refused(made, INDEX, x -> x.replace(4, 0, 0));
        refused(made, INDEX, x -> x.replace(1, 2, 0));
        refused(made, INDEX, x -> x.replace(1, -1, 0));
        refused(made, ARGUMENT, x -> x.replace(1, 0, 8));
        refusedQuestions(made);
    }

    private static void refusedQuestions(Made made) {
        refused(made, INDEX, x -> x.length(4));
        refused(made, INDEX, x -> x.letterAt(0, 1));
        refused(made, INDEX, x -> x.trees(4));
        refused(made, INDEX, x -> x.treesByTrying(4));
        refused(made, INDEX, x -> x.treesOver(0, 10, 0, 1));
        refused(made, ARGUMENT, x -> x.treesOver(1, 10, 1, 0));
        refused(made, ARGUMENT, x -> x.treesOver(1, 9, 0, 1));
        refused(made, INDEX, x -> x.size(4));
        refused(made, INDEX, x -> x.ruleAt(4, 0));
        refused(made, ELEMENT, x -> x.ruleAt(0, 1));
        refused(made, ELEMENT, x -> x.ruleAt(2, 0));
        refused(made, INDEX, x -> x.depth(4));
        refused(made, INDEX, x -> x.colourAt(0, 1));
        refused(made, INDEX, x -> x.formatted(4));
        refused(made, INDEX, x -> x.formattedAt(4, 0));
        refused(made, ELEMENT, x -> x.formattedAt(0, 1));
        refused(made, ELEMENT, x -> x.formattedAt(2, 0));
        refused(made, INDEX, x -> x.accept(4));
        refused(made, STATE, x -> x.accept(2));
        refused(made, INDEX, x -> x.fault(4));
        refused(made, UNSUPPORTED, x -> x.release());
        refused(made, ARGUMENT, x -> x.ambiguous(0, 4));
        refused(made, ELEMENT, x -> x.ambiguous(1, 2));
        refused(made, ARGUMENT, x -> x.ambiguousAt(1, 5, 0));
        refused(made, ELEMENT, x -> x.ambiguousAt(1, 2, 0));
        refused(made, ELEMENT, x -> x.ambiguousAt(1, 4, 3));
    }

    /** 12 rules, 6 texts without a fault, and a text of 10 letters. */
    private static Parserpark full() {
        Parserpark x = grammar(rule(10, 0), rule(10, 0, 10), rule(11, 0), rule(11, 11, 11), rule(11, 12),
                rule(12, 1), rule(13, 1), rule(13, 2), rule(13, 3), rule(14, 4), rule(14, 5), rule(14, 6));
        text(x, repeat('a', 10));
        x.accept(0);
        for (int text = 1; text < 6; text++) {
            x.addText(0);
            x.accept(text);
        }
        x.release();
        return x;
    }

    private static void refusedWhereAllIsFull() {
        Made made = () -> full();
        refused(made, STATE, x -> x.addRule(10, 0, NONE, NONE));
        refused(made, STATE, x -> x.addRule(10, 11, NONE, NONE));
        refused(made, STATE, x -> x.addText(0));
        refused(made, STATE, x -> x.addLetter(0, 0));
        refused(made, UNSUPPORTED, x -> x.treesByTrying(0));
        refused(() -> fullAndWithoutTree(), STATE, x -> x.accept(1));
        refused(() -> fullAndWithoutTree(), UNSUPPORTED, x -> x.release());
    }

    private static Parserpark fullAndWithoutTree() {
        Parserpark x = full();
        x.replace(1, 0, 7);
        return x;
    }

    private static void refusedWithoutTexts() {
        Made made = () -> new Parserpark();
        refused(made, ELEMENT, x -> x.dropRule(0));
        refused(made, ELEMENT, x -> x.setRank(0, 0));
        refused(made, ELEMENT, x -> x.setStyle(0, 0, 0));
        refused(made, ARGUMENT, x -> x.addRule(10, 10, NONE, NONE));
        refused(made, ARGUMENT, x -> x.addText(8));
        refused(made, INDEX, x -> x.addLetter(0, 0));
        refused(made, INDEX, x -> x.replace(0, 0, 0));
        refused(made, INDEX, x -> x.accept(0));
        refused(made, STATE, x -> x.release());
        refused(made, ELEMENT, x -> x.ambiguous(3, 4));
        refused(made, ELEMENT, x -> x.ambiguousAt(3, 4, 0));
        refused(made, ARITHMETIC, x -> x.cleanShare());
        refused(made, ARITHMETIC, x -> x.meanTrees());
    }

    private static void firstListedException() {
        says("If several exceptions apply, the exception that is listed first is thrown.");
        Parserpark x = full();
        due(ARGUMENT, () -> x.addRule(9, 0, NONE, NONE));
        due(ARGUMENT, () -> x.addRule(10, 0, NONE, 0));
        due(ARGUMENT, () -> x.addRule(11, 11, NONE, NONE));
        x.dropRule(11);
        due(ELEMENT, () -> x.setRank(11, 10));
        due(ELEMENT, () -> x.setRank(12, -1));
        due(ELEMENT, () -> x.setStyle(11, 10, 0));
        due(ELEMENT, () -> x.setStyle(12, 0, 4));
        due(ELEMENT, () -> x.setStyle(-1, -1, -1));
        due(ARGUMENT, () -> x.addText(8));
        due(INDEX, () -> x.addLetter(6, 8));
        due(ARGUMENT, () -> x.addLetter(0, 8));
        due(INDEX, () -> x.replace(6, 0, 8));
        due(INDEX, () -> x.replace(0, 10, 8));
        due(INDEX, () -> x.replace(-1, -1, -1));
        due(INDEX, () -> x.treesOver(6, 9, 0, 0));
        due(INDEX, () -> x.treesOver(6, 10, 1, 0));
        due(INDEX, () -> x.treesOver(0, 15, 10, 10));
        due(INDEX, () -> x.treesOver(0, 15, 0, 10));
        due(INDEX, () -> x.treesOver(0, 10, 10, 9));
        due(INDEX, () -> x.treesOver(0, 10, 0, -1));
        due(INDEX, () -> x.ruleAt(6, -1));
        due(INDEX, () -> x.ruleAt(-1, 99));
        due(INDEX, () -> x.formattedAt(6, -1));
        due(INDEX, () -> x.formattedAt(-1, 99));
        due(INDEX, () -> x.colourAt(6, 10));
        Parserpark y = new Parserpark();
        due(INDEX, () -> y.addLetter(0, -1));
        due(ARGUMENT, () -> y.ambiguous(4, 4));
        due(ARGUMENT, () -> y.ambiguous(3, 5));
        due(ARGUMENT, () -> y.ambiguous(0, 1));
        due(ARGUMENT, () -> y.ambiguous(1, 0));
        due(ARGUMENT, () -> y.ambiguousAt(4, 4, 0));
        due(ARGUMENT, () -> y.ambiguousAt(3, 5, 9));
        due(ARGUMENT, () -> y.ambiguousAt(0, 1, 0));
        due(ARGUMENT, () -> y.ambiguousAt(1, 0, 9));
    }
}
