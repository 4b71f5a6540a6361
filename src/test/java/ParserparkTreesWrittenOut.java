import java.util.ArrayList;
import java.util.HashMap;
import java.util.List;
import java.util.Map;
import java.util.Random;

/**
 * Writes out all trees of small texts one by one, as "Terms" says what a tree is, and chooses among them as it says
 * which one is chosen: their number, the rules, the depth, the colours and the formatted form are compared.
 */
public final class ParserparkTreesWrittenOut {
    private static final int GRAMMARS = 12000;
    private static final int LONGEST = 6;
    private static final int MOST_WRITTEN = 20000;
    private static final int NONE = Parserpark.NONE;

    private static final Random RANDOM = new Random(20);
    private static int wrong = 0;

    private static final class Rule {
        int number;
        int left;
        int[] right;
        int rank = 0;
        int colour = 0;
        int gap = 0;
    }

    /** A letter has no rule and no parts. */
    private record Tree(int symbol, Rule rule, List<Tree> parts, int length) {
        void putRules(List<Integer> row) {
            if (rule != null) {
                row.add(rule.number);
                for (Tree part : parts) {
                    part.putRules(row);
                }
            }
        }

        int depth() {
            int most = -1;
            for (Tree part : parts) {
                most = Math.max(most, part.depth());
            }
            return most + 1;
        }

        String form() {
            if (rule == null) {
                return "" + (char) ('a' + symbol);
            }
            List<String> forms = new ArrayList<>();
            for (Tree part : parts) {
                forms.add(part.form());
            }
            return String.join(" ".repeat(rule.gap), forms);
        }

        String colours(int above) {
            if (rule == null) {
                return "" + above;
            }
            StringBuilder colours = new StringBuilder();
            for (Tree part : parts) {
                colours.append(part.colours(rule.colour == 0 ? above : rule.colour));
            }
            return colours.toString();
        }
    }

    private static final class TooManyTrees extends RuntimeException {
    }

    /** The trees of one grammar and one word. */
    private static final class Forest {
        private final List<Rule> rules;
        private final int[] word;
        private final Map<String, List<Tree>> written = new HashMap<>();

        Forest(List<Rule> rules, int[] word) {
            this.rules = rules;
            this.word = word;
        }

        /** All trees of a symbol over the letters from a place up to the one ahead of the end. */
        List<Tree> trees(int symbol, int from, int end) {
            if (symbol <= 7) {
                boolean same = end - from == 1 && word[from] == symbol;
                return same ? List.of(new Tree(symbol, null, List.of(), 1)) : List.of();
            }
            String key = symbol + " " + from + " " + end;
            if (!written.containsKey(key)) {
                List<Tree> all = new ArrayList<>();
                for (Rule rule : rules) {
                    if (rule.left == symbol) {
                        writeParts(rule, new ArrayList<>(), from, from, end, all);
                    }
                }
                written.put(key, all);
            }
            return written.get(key);
        }

        private void writeParts(Rule rule, List<Tree> parts, int from, int at, int end, List<Tree> all) {
            if (parts.size() == rule.right.length) {
                if (at == end) {
                    all.add(new Tree(rule.left, rule, List.copyOf(parts), end - from));
                }
                if (all.size() > MOST_WRITTEN) {
                    throw new TooManyTrees();
                }
                return;
            }
            int behind = rule.right.length - parts.size() - 1;
            int leastEnd = behind == 0 ? end : at + 1;
            for (int partEnd = leastEnd; partEnd <= end - behind; partEnd++) {
                for (Tree part : trees(rule.right[parts.size()], at, partEnd)) {
                    parts.add(part);
                    writeParts(rule, parts, from, partEnd, end, all);
                    parts.remove(parts.size() - 1);
                }
            }
        }

        /** The chosen one of all trees, or null: the others are struck off, one sentence after the other. */
        Tree chosen(int symbol, int from, int end) {
            List<Tree> left = new ArrayList<>(trees(symbol, from, end));
            if (left.isEmpty() || symbol <= 7) {
                return left.isEmpty() ? null : left.get(0);
            }
            int rank = left.stream().mapToInt(tree -> tree.rule().rank).max().getAsInt();
            left.removeIf(tree -> tree.rule().rank != rank);
            int number = left.stream().mapToInt(tree -> tree.rule().number).min().getAsInt();
            left.removeIf(tree -> tree.rule().number != number);
            for (int i = 0; i < left.get(0).parts().size(); i++) {
                int part = i;
                int fewest = left.stream().mapToInt(tree -> tree.parts().get(part).length()).min().getAsInt();
                left.removeIf(tree -> tree.parts().get(part).length() != fewest);
            }
            List<Tree> parts = new ArrayList<>();
            int at = from;
            for (Tree part : left.get(0).parts()) {
                parts.add(chosen(part.symbol(), at, at + part.length()));
                at += part.length();
            }
            left.removeIf(tree -> !tree.parts().equals(parts));
            if (left.size() != 1) {
                throw new AssertionError("there is not just one chosen tree");
            }
            return left.get(0);
        }
    }

    private static void due(Object want, Object got, String what) {
        if (!want.equals(got)) {
            wrong++;
            System.out.println(what + ": answered " + got + ", due is " + want);
        }
    }

    private static int limited(int number) {
        return Math.min(1000, number);
    }

    /** Adds rules of few letters and names to both, and drops some again. */
    private static List<Rule> addRules(Parserpark x, int letters, int names) {
        List<Rule> rules = new ArrayList<>();
        int most = 3 + RANDOM.nextInt(10);
        int number = 0;
        for (int attempt = 0; attempt < 40 && number < most; attempt++) {
            int[] symbols = {NONE, NONE, NONE};
            int count = 1 + RANDOM.nextInt(3);
            for (int i = 0; i < count; i++) {
                symbols[i] = RANDOM.nextInt(3) == 0 ? RANDOM.nextInt(letters) : 10 + RANDOM.nextInt(names);
            }
            Rule rule = new Rule();
            rule.left = 10 + RANDOM.nextInt(names);
            rule.right = java.util.Arrays.copyOf(symbols, count);
            if (count == 1 && symbols[0] >= 10 && symbols[0] <= rule.left) {
                continue;
            }
            rule.number = number;
            due(number, x.addRule(rule.left, symbols[0], symbols[1], symbols[2]), "addRule");
            number++;
            rules.add(rule);
        }
        if (number > 3) {
            x.dropRule(rules.remove(RANDOM.nextInt(rules.size())).number);
        }
        for (Rule rule : rules) {
            rule.rank = RANDOM.nextInt(3);
            rule.colour = RANDOM.nextInt(4);
            rule.gap = RANDOM.nextInt(4);
            x.setRank(rule.number, rule.rank);
            x.setStyle(rule.number, rule.colour, rule.gap);
        }
        return rules;
    }

    private static void compareNumbers(Parserpark x, Forest forest, int length, String what) {
        int number = limited(forest.trees(10, 0, length).size());
        due(number, x.trees(0), what + ", trees");
        if (length <= 5) {
            due(number, x.treesByTrying(0), what + ", treesByTrying");
        }
        for (int name = 10; name <= 14; name++) {
            for (int from = 0; from < length; from++) {
                for (int to = from; to < length; to++) {
                    int over = limited(forest.trees(name, from, to + 1).size());
                    due(over, x.treesOver(0, name, from, to), what + ", treesOver " + name + " " + from + " " + to);
                }
            }
        }
    }

    private static void compareChosen(Parserpark x, Tree tree, int length, String what) {
        List<Integer> row = new ArrayList<>();
        if (tree != null) {
            tree.putRules(row);
        }
        due(row.size(), x.size(0), what + ", size");
        for (int i = 0; i < row.size(); i++) {
            due(row.get(i), x.ruleAt(0, i), what + ", ruleAt " + i);
        }
        due(tree == null ? 0 : tree.depth(), x.depth(0), what + ", depth");
        String form = tree == null ? "" : tree.form();
        due(form.length(), x.formatted(0), what + ", formatted");
        for (int i = 0; i < form.length(); i++) {
            due(form.charAt(i), x.formattedAt(0, i), what + ", formattedAt " + i);
        }
        String colours = tree == null ? "0".repeat(length) : tree.colours(0);
        for (int i = 0; i < length; i++) {
            due(colours.charAt(i) - '0', x.colourAt(0, i), what + ", colourAt " + i);
        }
        due(true, x.isSound(), what + ", isSound");
    }

    /** How many trees the text had: 0, 1, 2 for several; -1 if there were too many to write them out. */
    private static int compare(Parserpark x, List<Rule> rules, int[] word, String what) {
        Forest forest = new Forest(rules, word);
        try {
            compareNumbers(x, forest, word.length, what);
            compareChosen(x, forest.chosen(10, 0, word.length), word.length, what);
            return Math.min(2, forest.trees(10, 0, word.length).size());
        } catch (TooManyTrees e) {
            return -1;
        }
    }

    public static void main(String[] args) {
        int[] seen = new int[4];
        for (int grammar = 0; grammar < GRAMMARS; grammar++) {
            int letters = 1 + RANDOM.nextInt(3);
            int[] word = new int[1 + RANDOM.nextInt(LONGEST)];
            Parserpark x = new Parserpark();
            for (int i = 0; i < word.length; i++) {
                word[i] = RANDOM.nextInt(letters);
                due(0, i == 0 ? x.addText(word[0]) : x.addLetter(0, word[i]), "a text without rules");
            }
            List<Rule> rules = addRules(x, letters, 1 + RANDOM.nextInt(5));
            seen[compare(x, rules, word, "grammar " + grammar) + 1]++;
            int place = RANDOM.nextInt(word.length);
            word[place] = RANDOM.nextInt(letters);
            x.replace(0, place, word[place]);
            seen[compare(x, rules, word, "grammar " + grammar + " with a letter replaced") + 1]++;
        }
        System.out.println("texts with 0, 1, several trees: " + seen[1] + ", " + seen[2] + ", " + seen[3]
                + "; not written out: " + seen[0] + "; " + wrong + " wrong");
        if (wrong != 0 || seen[2] < 1000 || seen[3] < 1000) {
            System.exit(1);
        }
    }
}
