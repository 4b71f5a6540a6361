import java.math.BigInteger;
import java.util.ArrayList;
import java.util.HashMap;
import java.util.List;
import java.util.Map;
import java.util.NoSuchElementException;

/**
 * Plays runs of calls, ordinary and wrong ones, on a Parserpark and on a slow model that is written from the document
 * alone: its texts are words, its trees are objects, and it keeps nothing from call to call.
 */
public final class ParserparkAgainstModel {
    private static final int RUNS = 240;
    private static final int CALLS = 512;
    private static long seed = 1;

    private record Rule(int number, int left, List<Integer> right) {
    }

    private static final class Style {
        int rank = 0;
        int colour = 0;
        int gap = 0;
    }

    private record Node(int symbol, Rule rule, List<Node> parts) {
        void putRules(List<Integer> row) {
            if (rule != null) {
                row.add(rule.number());
                for (Node part : parts) {
                    part.putRules(row);
                }
            }
        }

        int depth() {
            int most = 0;
            for (Node part : parts) {
                most = Math.max(most, part.depth());
            }
            return rule == null ? 0 : most + 1;
        }
    }

    private static final class Model {
        private final Map<Integer, Rule> live = new HashMap<>();
        private final Map<Integer, Style> styles = new HashMap<>();
        private final List<String> texts = new ArrayList<>();
        private final Map<Integer, List<Integer>> accepted = new HashMap<>();
        private final Map<String, BigInteger> counts = new HashMap<>();
        private int added = 0;
        private int releases = 0;
        private long work = 0;

        private static boolean isLetter(int symbol) {
            return 0 <= symbol && symbol <= 7;
        }

        private static boolean isName(int symbol) {
            return 10 <= symbol && symbol <= 14;
        }

        private String text(int number) {
            if (number < 0 || number >= texts.size()) {
                throw new IndexOutOfBoundsException();
            }
            return texts.get(number);
        }

        private String textWith(int number, int place) {
            String text = text(number);
            if (place < 0 || place >= text.length()) {
                throw new IndexOutOfBoundsException();
            }
            return text;
        }

        private char letter(int letter) {
            if (!isLetter(letter)) {
                throw new IllegalArgumentException();
            }
            return (char) ('0' + letter);
        }

        private Rule rule(int number) {
            if (!live.containsKey(number)) {
                throw new NoSuchElementException();
            }
            return live.get(number);
        }

        /** All trees of a row of symbols over a word, without any limit. */
        private BigInteger countRow(List<Integer> symbols, String word) {
            if (symbols.isEmpty()) {
                return word.isEmpty() ? BigInteger.ONE : BigInteger.ZERO;
            }
            List<Integer> behind = symbols.subList(1, symbols.size());
            BigInteger sum = BigInteger.ZERO;
            for (int length = 1; length <= word.length() - behind.size(); length++) {
                BigInteger rest = countRow(behind, word.substring(length));
                if (rest.signum() > 0) {
                    sum = sum.add(count(symbols.get(0), word.substring(0, length)).multiply(rest));
                }
            }
            return sum;
        }

        private BigInteger count(int symbol, String word) {
            if (isLetter(symbol)) {
                return word.equals("" + symbol) ? BigInteger.ONE : BigInteger.ZERO;
            }
            String key = symbol + ":" + word;
            BigInteger known = counts.get(key);
            if (known == null) {
                known = BigInteger.ZERO;
                for (Rule rule : live.values()) {
                    if (rule.left() == symbol) {
                        known = known.add(countRow(rule.right(), word));
                    }
                }
                counts.put(key, known);
            }
            return known;
        }

        private int limited(int symbol, String word) {
            return count(symbol, word).min(BigInteger.valueOf(1000)).intValue();
        }

        /** The chosen tree, or null. */
        private Node chosen(int symbol, String word) {
            if (count(symbol, word).signum() == 0) {
                return null;
            }
            if (isLetter(symbol)) {
                return new Node(symbol, null, List.of());
            }
            Rule best = null;
            for (int number = 0; number < added; number++) {
                Rule rule = live.get(number);
                if (rule == null || rule.left() != symbol || countRow(rule.right(), word).signum() == 0) {
                    continue;
                }
                if (best == null || styles.get(number).rank > styles.get(best.number()).rank) {
                    best = rule;
                }
            }
            return new Node(symbol, best, chosenParts(best.right(), word));
        }

        private List<Node> chosenParts(List<Integer> symbols, String word) {
            List<Node> parts = new ArrayList<>();
            if (symbols.isEmpty()) {
                return parts;
            }
            List<Integer> behind = symbols.subList(1, symbols.size());
            for (int length = 1; length <= word.length() - behind.size(); length++) {
                String first = word.substring(0, length);
                String rest = word.substring(length);
                if (countRow(behind, rest).signum() > 0 && count(symbols.get(0), first).signum() > 0) {
                    parts.add(chosen(symbols.get(0), first));
                    parts.addAll(chosenParts(behind, rest));
                    return parts;
                }
            }
            throw new AssertionError("no parts");
        }

        private List<Integer> row(int text) {
            List<Integer> row = new ArrayList<>();
            Node tree = chosen(10, text(text));
            if (tree != null) {
                tree.putRules(row);
            }
            return row;
        }

        private String form(Node tree) {
            if (tree.rule() == null) {
                return "" + (char) ('a' + tree.symbol());
            }
            List<String> forms = new ArrayList<>();
            for (Node part : tree.parts()) {
                forms.add(form(part));
            }
            return String.join(" ".repeat(styles.get(tree.rule().number()).gap), forms);
        }

        private String form(int text) {
            Node tree = chosen(10, text(text));
            return tree == null ? "" : form(tree);
        }

        private void putColours(Node tree, int above, List<Integer> colours) {
            if (tree.rule() == null) {
                colours.add(above);
                return;
            }
            int own = styles.get(tree.rule().number()).colour;
            for (Node part : tree.parts()) {
                putColours(part, own == 0 ? above : own, colours);
            }
        }

        private int findTouched(Rule rule) {
            counts.clear();
            int touched = 0;
            for (String text : texts) {
                boolean all = true;
                for (int symbol : rule.right()) {
                    all &= isName(symbol) || text.contains("" + symbol);
                }
                if (all) {
                    touched++;
                    for (int from = 0; from < text.length(); from++) {
                        for (int to = from; to < text.length(); to++) {
                            work++;
                        }
                    }
                }
            }
            return touched;
        }

        private char fault(int number) {
            int trees = limited(10, text(number));
            if (trees != 1) {
                return trees == 0 ? 'n' : 'a';
            }
            if (!accepted.containsKey(number)) {
                return 'u';
            }
            return accepted.get(number).equals(row(number)) ? '-' : 'x';
        }

        private int clean() {
            int clean = 0;
            for (int number = 0; number < texts.size(); number++) {
                clean += fault(number) == '-' ? 1 : 0;
            }
            return clean;
        }

        private String ambiguousRow(int letters, int longest) {
            if (letters < 1 || letters > 3 || longest < 1 || longest > 4) {
                throw new IllegalArgumentException();
            }
            List<String> rows = List.of("");
            for (int length = 1; length <= longest; length++) {
                List<String> longer = new ArrayList<>();
                for (String row : rows) {
                    for (int letter = 0; letter < letters; letter++) {
                        longer.add(row + letter);
                    }
                }
                for (String row : longer) {
                    if (limited(10, row) > 1) {
                        return row;
                    }
                }
                rows = longer;
            }
            throw new NoSuchElementException();
        }

        private int addRule(int left, int first, int second, int third) {
            boolean form = isName(left) && (isLetter(first) || isName(first))
                && (isLetter(second) || isName(second) || second == -1)
                && (isLetter(third) || isName(third) || third == -1);
            if (!form || third != -1 && second == -1 || second == -1 && isName(first) && first <= left) {
                throw new IllegalArgumentException();
            }
            if (added == 12) {
                throw new IllegalStateException();
            }
            List<Integer> right = new ArrayList<>();
            for (int symbol : new int[] {first, second, third}) {
                if (symbol != -1) {
                    right.add(symbol);
                }
            }
            Rule rule = new Rule(added, left, right);
            live.put(added, rule);
            styles.put(added, new Style());
            findTouched(rule);
            return added++;
        }

        private int dropRule(int number) {
            Rule rule = rule(number);
            live.remove(number);
            return findTouched(rule);
        }

        private int setRank(int number, int rank) {
            rule(number);
            if (rank < 0 || rank > 9) {
                throw new IllegalArgumentException();
            }
            int before = styles.get(number).rank;
            styles.get(number).rank = rank;
            return before;
        }

        private int setStyle(int number, int colour, int gap) {
            rule(number);
            if (colour < 0 || colour > 9 || gap < 0 || gap > 3) {
                throw new IllegalArgumentException();
            }
            Style style = styles.get(number);
            int before = style.colour * 10 + style.gap;
            style.colour = colour;
            style.gap = gap;
            return before;
        }

        private int addText(int letter) {
            char sign = letter(letter);
            if (texts.size() == 6) {
                throw new IllegalStateException();
            }
            texts.add("" + sign);
            work++;
            return texts.size() - 1;
        }

        private int addLetter(int number, int letter) {
            String text = text(number);
            char sign = letter(letter);
            if (text.length() == 10) {
                throw new IllegalStateException();
            }
            texts.set(number, text + sign);
            work += text.length() + 1;
            return limited(10, text(number));
        }

        private int replace(int number, int place, int letter) {
            String text = textWith(number, place);
            char sign = letter(letter);
            texts.set(number, text.substring(0, place) + sign + text.substring(place + 1));
            for (int from = 0; from < text.length(); from++) {
                for (int to = from; to < text.length(); to++) {
                    work += from <= place && place <= to ? 1 : 0;
                }
            }
            return limited(10, text(number));
        }

        private int treesByTrying(int number) {
            String text = text(number);
            if (text.length() > 5) {
                throw new UnsupportedOperationException();
            }
            return limited(10, text);
        }

        private int treesOver(int number, int name, int from, int to) {
            textWith(number, from);
            String text = textWith(number, to);
            if (!isName(name) || to < from) {
                throw new IllegalArgumentException();
            }
            return limited(name, text.substring(from, to + 1));
        }

        private int ruleAt(int number, int index) {
            List<Integer> row = row(number);
            if (index < 0 || index >= row.size()) {
                throw new NoSuchElementException();
            }
            return row.get(index);
        }

        private int depth(int number) {
            Node tree = chosen(10, text(number));
            return tree == null ? 0 : tree.depth();
        }

        private int colourAt(int number, int place) {
            Node tree = chosen(10, textWith(number, place));
            List<Integer> colours = new ArrayList<>();
            if (tree == null) {
                return 0;
            }
            putColours(tree, 0, colours);
            return colours.get(place);
        }

        private char formattedAt(int number, int index) {
            String form = form(number);
            if (index < 0 || index >= form.length()) {
                throw new NoSuchElementException();
            }
            return form.charAt(index);
        }

        private int accept(int number) {
            List<Integer> row = row(number);
            if (row.isEmpty()) {
                throw new IllegalStateException();
            }
            accepted.put(number, row);
            return row.size();
        }

        private int release() {
            if (texts.isEmpty()) {
                throw new IllegalStateException();
            }
            if (clean() != texts.size()) {
                throw new UnsupportedOperationException();
            }
            return ++releases;
        }

        private int ambiguousAt(int letters, int longest, int place) {
            String row = ambiguousRow(letters, longest);
            if (place < 0 || place >= row.length()) {
                throw new NoSuchElementException();
            }
            return row.charAt(place) - '0';
        }

        private float cleanShare() {
            if (texts.isEmpty()) {
                throw new ArithmeticException();
            }
            return (float) clean() / (float) texts.size();
        }

        private double meanTrees() {
            if (texts.isEmpty()) {
                throw new ArithmeticException();
            }
            double sum = 0;
            for (String text : texts) {
                sum += limited(10, text);
            }
            return sum / texts.size();
        }

        Object answer(int call, int[] a) {
            return switch (call) {
                case 0 -> addRule(a[0], a[1], a[2], a[3]);
                case 1 -> dropRule(a[0]);
                case 2 -> setRank(a[0], a[1]);
                case 3 -> setStyle(a[0], a[1], a[2]);
                case 4 -> live.size();
                case 5 -> addText(a[0]);
                case 6 -> addLetter(a[0], a[1]);
                case 7 -> replace(a[0], a[1], a[2]);
                case 8 -> text(a[0]).length();
                case 9 -> textWith(a[0], a[1]).charAt(a[1]) - '0';
                case 10 -> limited(10, text(a[0]));
                case 11 -> treesByTrying(a[0]);
                case 12 -> treesOver(a[0], a[1], a[2], a[3]);
                case 13 -> row(a[0]).size();
                case 14 -> ruleAt(a[0], a[1]);
                case 15 -> depth(a[0]);
                case 16 -> colourAt(a[0], a[1]);
                case 17 -> form(a[0]).length();
                case 18 -> formattedAt(a[0], a[1]);
                case 19 -> accept(a[0]);
                case 20 -> fault(a[0]);
                case 21 -> release();
                case 22 -> ambiguousRow(a[0], a[1]).length();
                case 23 -> ambiguousAt(a[0], a[1], a[2]);
                case 24 -> work;
                case 25 -> cleanShare();
                case 26 -> meanTrees();
                default -> true;
            };
        }
    }

    private static Object answer(Parserpark x, int call, int[] a) {
        return switch (call) {
            case 0 -> x.addRule(a[0], a[1], a[2], a[3]);
            case 1 -> x.dropRule(a[0]);
            case 2 -> x.setRank(a[0], a[1]);
            case 3 -> x.setStyle(a[0], a[1], a[2]);
            case 4 -> x.rules();
            case 5 -> x.addText(a[0]);
            case 6 -> x.addLetter(a[0], a[1]);
            case 7 -> x.replace(a[0], a[1], a[2]);
            case 8 -> x.length(a[0]);
            case 9 -> x.letterAt(a[0], a[1]);
            case 10 -> x.trees(a[0]);
            case 11 -> x.treesByTrying(a[0]);
            case 12 -> x.treesOver(a[0], a[1], a[2], a[3]);
            case 13 -> x.size(a[0]);
            case 14 -> x.ruleAt(a[0], a[1]);
            case 15 -> x.depth(a[0]);
            case 16 -> x.colourAt(a[0], a[1]);
            case 17 -> x.formatted(a[0]);
            case 18 -> x.formattedAt(a[0], a[1]);
            case 19 -> x.accept(a[0]);
            case 20 -> x.fault(a[0]);
            case 21 -> x.release();
            case 22 -> x.ambiguous(a[0], a[1]);
            case 23 -> x.ambiguousAt(a[0], a[1], a[2]);
            case 24 -> x.work();
            case 25 -> x.cleanShare();
            case 26 -> x.meanTrees();
            default -> x.isSound();
        };
    }

    private static int next(int bound) {
        seed = seed * 6364136223846793005L + 1442695040888963407L;
        return (int) ((seed >>> 33) % bound);
    }

    /** A number from least to greatest, and now and then one just outside, or far outside. */
    private static int about(int least, int greatest) {
        switch (next(60)) {
            case 0:
                return least - 1;
            case 1:
                return greatest + 1;
            case 2:
                return new int[] {Integer.MIN_VALUE, Integer.MAX_VALUE, -2, 8, 15}[next(5)];
            default:
                return least + next(greatest - least + 1);
        }
    }

    /** A symbol of a rule; few letters and names, so that many texts have trees. */
    private static int symbol(int letters, int names) {
        return next(5) < 2 ? about(0, letters - 1) : about(10, 9 + names);
    }

    private static int[] rule(int letters, int names) {
        int left = about(10, 9 + names);
        switch (next(6)) {
            case 0:
                return new int[] {left, about(0, letters - 1), -1, -1};
            case 1:
                return new int[] {left, about(Math.min(left, 13) + 1, 14), -1, -1};
            case 2:
                return new int[] {left, symbol(letters, names), symbol(letters, names), symbol(letters, names)};
            case 3:
                return new int[] {left, symbol(letters, names), next(9) == 0 ? 0 : -1, next(9) == 0 ? 0 : -1};
            default:
                return new int[] {left, symbol(letters, names), symbol(letters, names), -1};
        }
    }

    /** Rules with which every row of the letters has a tree, and mostly just one. */
    private static int[] plainRule(int i, int letters) {
        int letter = i % letters;
        return i < letters ? new int[] {10, letter, -1, -1} : new int[] {10, letter, 10, -1};
    }

    private static int[] inputs(int call, Model model, int letters, int names) {
        int text = about(0, Math.max(0, model.texts.size() - 1));
        int size = text >= 0 && text < model.texts.size() ? model.texts.get(text).length() : 1;
        int rule = about(0, Math.max(0, model.added - 1));
        switch (call) {
            case 0:
                return rule(letters, names);
            case 2:
                return new int[] {rule, about(0, 9)};
            case 3:
                return new int[] {rule, about(0, 9), about(0, 3)};
            case 1:
                return new int[] {rule};
            case 5:
                return new int[] {about(0, letters - 1)};
            case 6:
                return new int[] {text, about(0, letters - 1)};
            case 7:
                return new int[] {text, about(0, size - 1), about(0, letters - 1)};
            case 9:
            case 16:
                return new int[] {text, about(0, size - 1)};
            case 12:
                int from = about(0, size - 1);
                boolean inside = from >= 0 && from < size;
                return new int[] {text, about(10, 14), from, about(inside && next(9) > 0 ? from : 0, size - 1)};
            case 14:
                return new int[] {text, about(0, 2 * size)};
            case 18:
                return new int[] {text, about(0, 2 * size)};
            case 22:
            case 23:
                return new int[] {about(1, 3), about(1, 4), about(0, 3)};
            default:
                return new int[] {text};
        }
    }

    /** Most runs begin with rules and texts; later, what changes much comes seldom, so that texts grow long. */
    private static int chooseCall(int run, int calls) {
        if (calls < 12 && run % 8 != 0) {
            return calls % 3 == 2 ? 5 : 0;
        }
        int often = next(100);
        if (often < 14) {
            return 6;
        }
        if (often < 22) {
            return 7;
        }
        if (often < 28) {
            return 19;
        }
        if (often < 30) {
            return 21;
        }
        int call = next(28);
        return call == 1 && next(4) > 0 ? 20 : call;
    }

    private static Object answerOrException(Parserpark x, Model model, int call, int[] a) {
        try {
            return x != null ? answer(x, call, a) : model.answer(call, a);
        } catch (RuntimeException e) {
            return e.getClass();
        }
    }

    public static void main(String[] args) {
        int[][] seen = new int[28][2];
        int[] faults = new int[128];
        for (int run = 0; run < RUNS; run++) {
            seed = run * 7919L + 17;
            Parserpark x = new Parserpark();
            Model model = new Model();
            int letters = 1 + next(next(4) == 0 ? 8 : 3);
            int names = 1 + next(5);
            StringBuilder calls = new StringBuilder();
            for (int i = 0; i < CALLS; i++) {
                int call = chooseCall(run, i);
                boolean plain = run % 3 == 0 && i < 2 * letters;
                call = plain ? 0 : call;
                int[] inputs = plain ? plainRule(i, letters) : inputs(call, model, letters, names);
                Object want = answerOrException(null, model, call, inputs);
                Object got = answerOrException(x, model, call, inputs);
                calls.append(call).append(java.util.Arrays.toString(inputs)).append(" -> ").append(got).append('\n');
                seen[call][want instanceof Class ? 1 : 0]++;
                if (call == 20 && want instanceof Character c) {
                    faults[c]++;
                }
                if (!want.equals(got)) {
                    System.out.println("run " + run + ":\n" + calls + "due is " + want);
                    System.exit(1);
                }
            }
        }
        for (int call = 0; call < seen.length; call++) {
            boolean throwsNever = call == 4 || call == 24 || call == 27;
            if (seen[call][0] == 0 || seen[call][1] == 0 && !throwsNever) {
                System.out.println("call " + call + " was not tried in all ways");
                System.exit(1);
            }
        }
        for (char fault : "naux-".toCharArray()) {
            if (faults[fault] == 0) {
                System.out.println("no fault " + fault + " was seen");
                System.exit(1);
            }
        }
        System.out.println(RUNS + " runs of " + CALLS + " calls as the model answers them; releases made: "
                + seen[21][0] + "; faults 'n', 'a', 'u', 'x', '-' seen: " + faults['n'] + ", " + faults['a'] + ", "
                + faults['u'] + ", " + faults['x'] + ", " + faults['-']);
    }
}
