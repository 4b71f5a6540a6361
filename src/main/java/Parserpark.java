import java.util.Arrays;
import java.util.NoSuchElementException;

/** A grammar workshop: rules, texts parsed span by span, chosen trees, acceptance and releases. */
public final class Parserpark {
    public static final int NONE = -1;

    private static final int LETTERS = 8;
    private static final int TOP_NAME = 10;
    private static final int NAMES = 5;
    private static final int MOST_RULES = 12;
    private static final int MOST_TEXTS = 6;
    private static final int LONGEST_TEXT = 10;
    private static final int LONGEST_TRIED = 5;
    private static final int MOST_TREES = 1000;
    private static final int GREATEST_RANK = 9;
    private static final int GREATEST_COLOUR = 9;
    private static final int GREATEST_GAP = 3;
    private static final int MOST_ROW_LETTERS = 3;
    private static final int LONGEST_ROW = 4;
    private static final int MOST_ROWS = 81;
    private static final int SPOTS = NAMES * LONGEST_TEXT * LONGEST_TEXT;
    private static final int UNKNOWN = -1;

    // A tree over n letters has at most 2n - 1 different spans, and over each of them the names only grow.
    private static final int MOST_NODES = (2 * LONGEST_TEXT - 1) * NAMES;
    private static final int MOST_STEPS = MOST_NODES + LONGEST_TEXT;
    private static final int DEEPEST_TRIAL = LONGEST_TRIED * NAMES;

    private final Grammar grammar = new Grammar();
    private final Text[] texts = new Text[MOST_TEXTS];
    private final Spans scratch = new Spans();
    private final Layout layout = new Layout();
    private final Trial trial = new Trial();
    private int textCount = 0;
    private int releases = 0;
    private long found = 0;

    public Parserpark() {
    }

    // ---- rules

    public int addRule(int left, int first, int second, int third)
            throws IllegalArgumentException, IllegalStateException {
        if (!isRuleForm(left, first, second, third)) {
            throw new IllegalArgumentException();
        }
        if (!grammar.hasRoom()) {
            throw new IllegalStateException();
        }
        Rule rule = new Rule(grammar.added, left, first, second, third);
        grammar.put(rule);
        findTouchedBy(rule);
        return rule.number;
    }

    public int dropRule(int rule) throws NoSuchElementException {
        Rule dropped = existingRule(rule);
        dropped.gone = true;
        return findTouchedBy(dropped);
    }

    public int setRank(int rule, int rank) throws NoSuchElementException, IllegalArgumentException {
        Rule ranked = existingRule(rule);
        if (!isWithin(rank, 0, GREATEST_RANK)) {
            throw new IllegalArgumentException();
        }
        int before = ranked.rank;
        ranked.rank = rank;
        return before;
    }

    public int setStyle(int rule, int colour, int gap) throws NoSuchElementException, IllegalArgumentException {
        Rule styled = existingRule(rule);
        if (!isWithin(colour, 0, GREATEST_COLOUR) || !isWithin(gap, 0, GREATEST_GAP)) {
            throw new IllegalArgumentException();
        }
        int before = 10 * styled.colour + styled.gap;
        styled.colour = colour;
        styled.gap = gap;
        return before;
    }

    public int rules() {
        return grammar.countLive();
    }

    // ---- texts

    public int addText(int letter) throws IllegalArgumentException, IllegalStateException {
        requireLetter(letter);
        if (textCount < 0 || textCount >= texts.length) {
            throw new IllegalStateException();
        }
        Text text = new Text();
        text.spans.append(letter);
        int number = textCount;
        texts[number] = text;
        textCount++;
        found += text.spans.findHaving(grammar, 0);
        return number;
    }

    public int addLetter(int text, int letter)
            throws IndexOutOfBoundsException, IllegalArgumentException, IllegalStateException {
        Spans spans = existingText(text).spans;
        requireLetter(letter);
        if (spans.count >= LONGEST_TEXT) {
            throw new IllegalStateException();
        }
        spans.append(letter);
        found += spans.findHaving(grammar, spans.count - 1);
        return spans.treesOfAll();
    }

    public int replace(int text, int place, int letter) throws IndexOutOfBoundsException, IllegalArgumentException {
        Spans spans = existingText(text).spans;
        requirePlace(spans, place);
        requireLetter(letter);
        spans.put(place, letter);
        found += spans.findHaving(grammar, place);
        return spans.treesOfAll();
    }

    public int length(int text) throws IndexOutOfBoundsException {
        return existingText(text).spans.count;
    }

    public int letterAt(int text, int place) throws IndexOutOfBoundsException {
        Spans spans = existingText(text).spans;
        requirePlace(spans, place);
        return spans.letterOf(place);
    }

    // ---- trees

    public int trees(int text) throws IndexOutOfBoundsException {
        return existingText(text).spans.treesOfAll();
    }

    public int treesByTrying(int text) throws IndexOutOfBoundsException, UnsupportedOperationException {
        Spans spans = existingText(text).spans;
        if (spans.count > LONGEST_TRIED) {
            throw new UnsupportedOperationException();
        }
        return trial.treesOfAll(grammar, spans);
    }

    public int treesOver(int text, int name, int from, int to)
            throws IndexOutOfBoundsException, IllegalArgumentException {
        Spans spans = existingText(text).spans;
        requirePlace(spans, from);
        requirePlace(spans, to);
        if (!isName(name) || to < from) {
            throw new IllegalArgumentException();
        }
        return spans.treesOf(name, from, to);
    }

    public int size(int text) throws IndexOutOfBoundsException {
        layOut(text);
        return layout.ruleCount;
    }

    public int ruleAt(int text, int index) throws IndexOutOfBoundsException, NoSuchElementException {
        layOut(text);
        if (index < 0 || index >= layout.ruleCount) {
            throw new NoSuchElementException();
        }
        return layout.ruleNumber(index);
    }

    public int depth(int text) throws IndexOutOfBoundsException {
        layOut(text);
        return layout.deepest;
    }

    public int colourAt(int text, int place) throws IndexOutOfBoundsException {
        Spans spans = existingText(text).spans;
        requirePlace(spans, place);
        layout.lay(grammar, spans);
        return layout.colourOf(place);
    }

    public int formatted(int text) throws IndexOutOfBoundsException {
        layOut(text);
        return layout.countSigns();
    }

    public char formattedAt(int text, int index) throws IndexOutOfBoundsException, NoSuchElementException {
        Spans spans = existingText(text).spans;
        layout.lay(grammar, spans);
        if (index < 0 || index >= layout.countSigns()) {
            throw new NoSuchElementException();
        }
        return layout.sign(spans, index);
    }

    // ---- acceptance and releases

    public int accept(int text) throws IndexOutOfBoundsException, IllegalStateException {
        Text accepting = existingText(text);
        layout.lay(grammar, accepting.spans);
        if (layout.ruleCount == 0) {
            throw new IllegalStateException();
        }
        accepting.keep(layout);
        return layout.ruleCount;
    }

    public char fault(int text) throws IndexOutOfBoundsException {
        return faultOf(existingText(text));
    }

    public int release() throws IllegalStateException, UnsupportedOperationException {
        if (textCount == 0) {
            throw new IllegalStateException();
        }
        if (countClean() != textCount) {
            throw new UnsupportedOperationException();
        }
        releases++;
        return releases;
    }

    // ---- ambiguities and figures

    public int ambiguous(int letters, int longest) throws IllegalArgumentException, NoSuchElementException {
        return lengthOfAmbiguousRow(letters, longest);
    }

    public int ambiguousAt(int letters, int longest, int place)
            throws IllegalArgumentException, NoSuchElementException {
        int length = lengthOfAmbiguousRow(letters, longest);
        if (place < 0 || place >= length) {
            throw new NoSuchElementException();
        }
        return scratch.letterOf(place);
    }

    public long work() {
        return found;
    }

    public float cleanShare() throws ArithmeticException {
        if (textCount == 0) {
            throw new ArithmeticException();
        }
        return (float) countClean() / (float) textCount;
    }

    public double meanTrees() throws ArithmeticException {
        if (textCount == 0) {
            throw new ArithmeticException();
        }
        int sum = 0;
        for (Text text : texts) {
            if (text != null) {
                sum += text.spans.treesOfAll();
            }
        }
        return (double) sum / (double) textCount;
    }

    public boolean isSound() {
        for (Text text : texts) {
            if (text != null && !isSoundText(text.spans)) {
                return false;
            }
        }
        return true;
    }

    // ---- what the calls share

    private static boolean isWithin(int number, int least, int greatest) {
        return number >= least && number <= greatest;
    }

    private static boolean isLetter(int symbol) {
        return symbol >= 0 && symbol < LETTERS;
    }

    private static boolean isName(int symbol) {
        return symbol >= TOP_NAME && symbol < TOP_NAME + NAMES;
    }

    private static boolean isSymbol(int symbol) {
        return isLetter(symbol) || isName(symbol);
    }

    private static boolean isRuleForm(int left, int first, int second, int third) {
        if (!isName(left) || !isSymbol(first)) {
            return false;
        }
        if (second == NONE) {
            // A single name must be greater, so that no tree can hold itself over the same span.
            return third == NONE && (isLetter(first) || first > left);
        }
        return isSymbol(second) && (third == NONE || isSymbol(third));
    }

    private static int limited(int number) {
        return number > MOST_TREES ? MOST_TREES : number;
    }

    /** Where a row of numbers keeps that of a name over a span, or -1 if there is no such name or span. */
    private static int spot(int name, int from, int to) {
        if (name < TOP_NAME || name >= TOP_NAME + NAMES || from < 0 || to < from || to >= LONGEST_TEXT) {
            return -1;
        }
        return ((name - TOP_NAME) * LONGEST_TEXT + from) * LONGEST_TEXT + to;
    }

    private static void requireLetter(int letter) {
        if (!isLetter(letter)) {
            throw new IllegalArgumentException();
        }
    }

    private static void requirePlace(Spans spans, int place) {
        if (place < 0 || place >= spans.count) {
            throw new IndexOutOfBoundsException();
        }
    }

    private Rule existingRule(int number) {
        Rule rule = grammar.liveRule(number);
        if (rule == null) {
            throw new NoSuchElementException();
        }
        return rule;
    }

    private Text existingText(int number) {
        Text text = number >= 0 && number < texts.length ? texts[number] : null;
        if (text == null) {
            throw new IndexOutOfBoundsException();
        }
        return text;
    }

    private void layOut(int text) {
        layout.lay(grammar, existingText(text).spans);
    }

    private int findTouchedBy(Rule rule) {
        int touched = 0;
        for (Text text : texts) {
            if (text != null && text.spans.hasLettersOf(rule)) {
                found += text.spans.findAll(grammar);
                touched++;
            }
        }
        return touched;
    }

    private char faultOf(Text text) {
        int number = text.spans.treesOfAll();
        if (number == 0) {
            return 'n';
        }
        if (number > 1) {
            return 'a';
        }
        if (text.acceptedCount == 0) {
            return 'u';
        }
        layout.lay(grammar, text.spans);
        return text.hasAccepted(layout) ? '-' : 'x';
    }

    private int countClean() {
        int clean = 0;
        for (Text text : texts) {
            if (text != null && faultOf(text) == '-') {
                clean++;
            }
        }
        return clean;
    }

    /** Leaves the row itself in the scratch spans. */
    private int lengthOfAmbiguousRow(int letters, int longest) {
        if (!isWithin(letters, 1, MOST_ROW_LETTERS) || !isWithin(longest, 1, LONGEST_ROW)) {
            throw new IllegalArgumentException();
        }
        for (int length = 1; length <= longest; length++) {
            if (findAmbiguousRow(letters, length)) {
                return length;
            }
        }
        throw new NoSuchElementException();
    }

    private boolean findAmbiguousRow(int letters, int length) {
        scratch.startRow(length);
        for (int row = 0; row < MOST_ROWS; row++) {
            scratch.findAll(grammar);
            if (scratch.treesOfAll() > 1) {
                return true;
            }
            if (!scratch.nextRow(letters)) {
                return false;
            }
        }
        return false;
    }

    private boolean isSoundText(Spans spans) {
        int number = spans.treesOfAll();
        if (spans.count <= LONGEST_TRIED && trial.treesOfAll(grammar, spans) != number) {
            return false;
        }
        scratch.copyLetters(spans);
        scratch.findAll(grammar);
        if (!scratch.hasNumbersOf(spans)) {
            return false;
        }
        layout.lay(grammar, spans);
        return number == 0 || layout.letterCount == spans.count;
    }

    /** A rule of the grammar. */
    private static final class Rule {
        final int number;
        final int left;
        final int first;
        final int second;
        final int third;
        int rank = 0;
        int colour = 0;
        int gap = 0;
        boolean gone = false;

        Rule(int number, int left, int first, int second, int third) {
            this.number = number;
            this.left = left;
            this.first = first;
            this.second = second;
            this.third = third;
        }
    }

    /** All rules that were added, at their numbers. */
    private static final class Grammar {
        private final Rule[] places = new Rule[MOST_RULES];
        int added = 0;

        boolean hasRoom() {
            return added < places.length;
        }

        void put(Rule rule) {
            if (added >= 0 && added < places.length) {
                places[added] = rule;
                added++;
            }
        }

        Rule liveRule(int number) {
            if (number < 0 || number >= places.length) {
                return null;
            }
            Rule rule = places[number];
            return rule == null || rule.gone ? null : rule;
        }

        int countLive() {
            int live = 0;
            for (int number = 0; number < added; number++) {
                if (liveRule(number) != null) {
                    live++;
                }
            }
            return live;
        }

        /** The rule of the chosen tree of a name over a span, or null if there is no tree. */
        Rule chosenRule(Spans spans, int name, int from, int to) {
            Rule chosen = null;
            for (int number = 0; number < added; number++) {
                Rule rule = liveRule(number);
                if (rule == null || rule.left != name) {
                    continue;
                }
                boolean ahead = chosen == null || rule.rank > chosen.rank;
                if (ahead && spans.splitOf(rule, from, to) != NONE) {
                    chosen = rule;
                }
            }
            return chosen;
        }
    }

    /** A row of letters with the numbers of trees of all names over all of its spans. */
    private static final class Spans {
        private final int[] letters = new int[LONGEST_TEXT];
        private final int[] numbers = new int[SPOTS];
        int count = 0;

        int letterOf(int place) {
            return place >= 0 && place < letters.length ? letters[place] : NONE;
        }

        void put(int place, int letter) {
            if (place >= 0 && place < letters.length) {
                letters[place] = letter;
            }
        }

        void append(int letter) {
            if (count < LONGEST_TEXT) {
                put(count, letter);
                count++;
            }
        }

        void copyLetters(Spans other) {
            count = other.count;
            for (int place = 0; place < count; place++) {
                put(place, other.letterOf(place));
            }
        }

        void startRow(int length) {
            count = Math.min(length, LONGEST_TEXT);
            Arrays.fill(letters, 0);
        }

        /** Goes on to the next row of as many letters, the last place turning fastest; false behind the last row. */
        boolean nextRow(int letterKinds) {
            for (int place = count - 1; place >= 0; place--) {
                int next = letterOf(place) + 1;
                if (next < letterKinds) {
                    put(place, next);
                    return true;
                }
                put(place, 0);
            }
            return false;
        }

        boolean hasLettersOf(Rule rule) {
            return hasIfLetter(rule.first) && hasIfLetter(rule.second) && hasIfLetter(rule.third);
        }

        private boolean hasIfLetter(int symbol) {
            if (!isLetter(symbol)) {
                return true;
            }
            for (int place = 0; place < count; place++) {
                if (letterOf(place) == symbol) {
                    return true;
                }
            }
            return false;
        }

        /** Finds all spans and returns how many there are. */
        int findAll(Grammar grammar) {
            int spansFound = 0;
            for (int length = 1; length <= count; length++) {
                for (int from = 0; from + length <= count; from++) {
                    findSpan(grammar, from, from + length - 1);
                    spansFound++;
                }
            }
            return spansFound;
        }

        /** Finds all spans that have a place, shorter ones first, and returns how many there are. */
        int findHaving(Grammar grammar, int place) {
            int spansFound = 0;
            for (int length = 1; length <= count; length++) {
                int lastFrom = Math.min(place, count - length);
                for (int from = Math.max(0, place - length + 1); from <= lastFrom; from++) {
                    findSpan(grammar, from, from + length - 1);
                    spansFound++;
                }
            }
            return spansFound;
        }

        // A single name is greater than that on the left side: so the greatest name is found first.
        private void findSpan(Grammar grammar, int from, int to) {
            for (int name = TOP_NAME + NAMES - 1; name >= TOP_NAME; name--) {
                int sum = 0;
                for (int number = 0; number < grammar.added; number++) {
                    Rule rule = grammar.liveRule(number);
                    if (rule != null && rule.left == name) {
                        sum = limited(sum + treesByRule(rule, from, to));
                    }
                }
                int spot = spot(name, from, to);
                if (spot >= 0 && spot < numbers.length) {
                    numbers[spot] = sum;
                }
            }
        }

        int treesOfAll() {
            return treesOf(TOP_NAME, 0, count - 1);
        }

        /** The number of trees of a symbol over a span; where a rule has no symbol, only the empty span fits. */
        int treesOf(int symbol, int from, int to) {
            if (symbol == NONE) {
                return from > to ? 1 : 0;
            }
            if (from < 0 || to < from || to >= LONGEST_TEXT || symbol < 0 || symbol >= TOP_NAME + NAMES) {
                return 0;
            }
            if (symbol < TOP_NAME) {
                return from == to && letters[from] == symbol ? 1 : 0;
            }
            return numbers[((symbol - TOP_NAME) * LONGEST_TEXT + from) * LONGEST_TEXT + to];
        }

        /** The number of trees over a span that have this rule at their top. */
        int treesByRule(Rule rule, int from, int to) {
            int sum = 0;
            // Where a symbol is missing, the part ahead of it can end nowhere but at the end.
            for (int firstEnd = rule.second == NONE ? to : from; firstEnd <= to; firstEnd++) {
                int first = treesOf(rule.first, from, firstEnd);
                for (int secondEnd = rule.third == NONE ? to : firstEnd; first > 0 && secondEnd <= to; secondEnd++) {
                    int second = limited(first * treesOf(rule.second, firstEnd + 1, secondEnd));
                    sum = limited(sum + limited(second * treesOf(rule.third, secondEnd + 1, to)));
                }
            }
            return sum;
        }

        /**
         * Where the first part and the second part of the chosen tree with this rule end, as near as they can:
         * the first end times LONGEST_TEXT, plus the second one; NONE if this rule has no tree over the span.
         */
        int splitOf(Rule rule, int from, int to) {
            for (int firstEnd = rule.second == NONE ? to : from; firstEnd <= to; firstEnd++) {
                boolean fits = treesOf(rule.first, from, firstEnd) > 0;
                for (int secondEnd = rule.third == NONE ? to : firstEnd; fits && secondEnd <= to; secondEnd++) {
                    if (treesOf(rule.second, firstEnd + 1, secondEnd) > 0
                            && treesOf(rule.third, secondEnd + 1, to) > 0) {
                        return firstEnd * LONGEST_TEXT + secondEnd;
                    }
                }
            }
            return NONE;
        }

        boolean hasNumbersOf(Spans other) {
            for (int name = TOP_NAME; name < TOP_NAME + NAMES; name++) {
                for (int from = 0; from < count; from++) {
                    for (int to = from; to < count; to++) {
                        if (treesOf(name, from, to) != other.treesOf(name, from, to)) {
                            return false;
                        }
                    }
                }
            }
            return true;
        }
    }

    /** A text of the corpus with its accepted tree. */
    private static final class Text {
        final Spans spans = new Spans();
        private final int[] accepted = new int[MOST_NODES];
        int acceptedCount = 0;

        void keep(Layout tree) {
            acceptedCount = Math.min(tree.ruleCount, accepted.length);
            for (int index = 0; index < acceptedCount; index++) {
                accepted[index] = tree.ruleNumber(index);
            }
        }

        boolean hasAccepted(Layout tree) {
            if (tree.ruleCount != acceptedCount || acceptedCount > accepted.length) {
                return false;
            }
            for (int index = 0; index < acceptedCount; index++) {
                if (accepted[index] != tree.ruleNumber(index)) {
                    return false;
                }
            }
            return true;
        }
    }

    /** The chosen tree of one row of letters, laid out: its rules in their order, its colours and gaps by places. */
    private static final class Layout {
        private final int[] ruleNumbers = new int[MOST_NODES];
        private final int[] colours = new int[LONGEST_TEXT];
        // Each two neighbours are parted by just one rule of the tree: its gap stands at the second one's place.
        private final int[] gaps = new int[LONGEST_TEXT];
        // The parts that wait are spans side by side, so there are never more of them than letters.
        private final int[] waitingSymbols = new int[LONGEST_TEXT];
        private final int[] waitingFroms = new int[LONGEST_TEXT];
        private final int[] waitingTos = new int[LONGEST_TEXT];
        private final int[] waitingLevels = new int[LONGEST_TEXT];
        private int waiting = 0;
        int ruleCount = 0;
        int deepest = 0;
        int letterCount = 0;

        void lay(Grammar grammar, Spans spans) {
            clear();
            if (spans.treesOfAll() > 0) {
                push(TOP_NAME, 0, spans.count - 1, 0);
            }
            for (int step = 0; step < MOST_STEPS && waiting > 0 && waiting <= LONGEST_TEXT; step++) {
                waiting--;
                int symbol = waitingSymbols[waiting];
                int from = waitingFroms[waiting];
                int to = waitingTos[waiting];
                int level = waitingLevels[waiting];
                if (isLetter(symbol)) {
                    letterCount++;
                    deepest = Math.max(deepest, level);
                    continue;
                }
                Rule rule = grammar.chosenRule(spans, symbol, from, to);
                if (rule != null) {
                    layRule(rule, from, to);
                    pushParts(spans, rule, from, to, level + 1);
                }
            }
        }

        private void clear() {
            Arrays.fill(colours, 0);
            Arrays.fill(gaps, 0);
            waiting = 0;
            ruleCount = 0;
            deepest = 0;
            letterCount = 0;
        }

        private void push(int symbol, int from, int to, int level) {
            if (waiting >= 0 && waiting < LONGEST_TEXT) {
                waitingSymbols[waiting] = symbol;
                waitingFroms[waiting] = from;
                waitingTos[waiting] = to;
                waitingLevels[waiting] = level;
                waiting++;
            }
        }

        private void layRule(Rule rule, int from, int to) {
            if (ruleCount >= 0 && ruleCount < ruleNumbers.length) {
                ruleNumbers[ruleCount] = rule.number;
                ruleCount++;
            }
            if (rule.colour == 0 || from < 0) {
                return;
            }
            // The rules below come later and lay their colours over this one.
            for (int place = from; place <= to && place < colours.length; place++) {
                colours[place] = rule.colour;
            }
        }

        // The last part is pushed first, so that the first one is laid next.
        private void pushParts(Spans spans, Rule rule, int from, int to, int level) {
            int split = spans.splitOf(rule, from, to);
            if (split == NONE) {
                return;
            }
            int firstEnd = split / LONGEST_TEXT;
            int secondEnd = split % LONGEST_TEXT;
            if (rule.third != NONE) {
                setGap(secondEnd + 1, rule.gap);
                push(rule.third, secondEnd + 1, to, level);
            }
            if (rule.second != NONE) {
                setGap(firstEnd + 1, rule.gap);
                push(rule.second, firstEnd + 1, secondEnd, level);
            }
            push(rule.first, from, firstEnd, level);
        }

        private void setGap(int place, int gap) {
            if (place >= 0 && place < gaps.length) {
                gaps[place] = gap;
            }
        }

        int ruleNumber(int index) {
            return index >= 0 && index < ruleNumbers.length ? ruleNumbers[index] : NONE;
        }

        int colourOf(int place) {
            return place >= 0 && place < colours.length ? colours[place] : 0;
        }

        int countSigns() {
            int signs = letterCount;
            for (int gap : gaps) {
                signs += gap;
            }
            return signs;
        }

        char sign(Spans spans, int index) {
            int signs = 0;
            for (int place = 0; place < gaps.length; place++) {
                signs += gaps[place];
                if (index < signs) {
                    return ' ';
                }
                if (index == signs) {
                    return (char) ('a' + spans.letterOf(place));
                }
                signs++;
            }
            return ' ';
        }
    }

    /** The number of trees from the whole row on, by trying; it asks the kept numbers for nothing. */
    private static final class Trial {
        // What was tried once is remembered: some grammars would take billions of trials otherwise.
        private final int[] known = new int[SPOTS];

        int treesOfAll(Grammar grammar, Spans spans) {
            Arrays.fill(known, UNKNOWN);
            return tryName(grammar, spans, TOP_NAME, 0, spans.count - 1, 1);
        }

        private int tryName(Grammar grammar, Spans spans, int name, int from, int to, int level) {
            int spot = spot(name, from, to);
            if (spot < 0 || spot >= known.length || level > DEEPEST_TRIAL) {
                return 0;
            }
            if (known[spot] != UNKNOWN) {
                return known[spot];
            }
            int sum = 0;
            for (int number = 0; number < grammar.added; number++) {
                Rule rule = grammar.liveRule(number);
                if (rule != null && rule.left == name) {
                    sum = limited(sum + tryRule(grammar, spans, rule, from, to, level));
                }
            }
            known[spot] = sum;
            return sum;
        }

        private int tryRule(Grammar grammar, Spans spans, Rule rule, int from, int to, int level) {
            if (rule.second == NONE) {
                return tryPart(grammar, spans, rule.first, from, to, level);
            }
            int sum = 0;
            for (int end = from; end < to; end++) {
                int trees = tryPart(grammar, spans, rule.first, from, end, level);
                if (trees > 0) {
                    sum = limited(sum + limited(trees * tryBehindFirst(grammar, spans, rule, end + 1, to, level)));
                }
            }
            return sum;
        }

        private int tryBehindFirst(Grammar grammar, Spans spans, Rule rule, int from, int to, int level) {
            if (rule.third == NONE) {
                return tryPart(grammar, spans, rule.second, from, to, level);
            }
            int sum = 0;
            for (int end = from; end < to; end++) {
                int trees = tryPart(grammar, spans, rule.second, from, end, level);
                if (trees > 0) {
                    sum = limited(sum + limited(trees * tryPart(grammar, spans, rule.third, end + 1, to, level)));
                }
            }
            return sum;
        }

        private int tryPart(Grammar grammar, Spans spans, int symbol, int from, int to, int level) {
            if (isLetter(symbol)) {
                return spans.treesOf(symbol, from, to);
            }
            return tryName(grammar, spans, symbol, from, to, level + 1);
        }
    }
}
