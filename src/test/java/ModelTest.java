import java.util.ArrayList;
import java.util.List;
import java.util.Random;

/** Runs of calls that come of fixed seeds, each answer held against that of DeskModel. */
public final class ModelTest {
    private static final int RUNS = 12000;
    /** What an object answers behind so many calls is free. */
    private static final int CALLS = 512;
    private static final String[] SIGNS = {"+", "-", "*", "/", "%", "<", "="};
    private static final String[] SCRAPS = {"sym", "inh", "syn", "rule", "end", "own", "if", "then", "else", "a", "b",
        "S", "X", "abcdefghi", "0", "1", "2", "3", "4", "2147483647", "2147483648", ";", ":", "=", ".", "(", ")", "<",
        "+", "-", "*", "/", "%", "?", "\t", "\n", " ", "\u00e9"};

    private static int wrong = 0;
    private static final int[] grammarFaults = new int[10];
    private static final int[] treeFaults = new int[10];
    private static final int[] demands = new int[4];
    private static final int[] exact = new int[4];
    private static int exactButNotPlain = 0;

    private final Random random;
    private final AttributeDesk desk = new AttributeDesk();
    private final DeskModel model = new DeskModel();
    private final StringBuilder calls = new StringBuilder();
    private final int run;
    private int callCount = 0;
    private boolean isWrong = false;

    // The grammar that is at hand.
    private final List<String> attributes = new ArrayList<>();
    private final List<int[]> rules = new ArrayList<>();
    private int symbolCount = 0;

    private ModelTest(int run) {
        this.run = run;
        random = new Random(run);
    }

    public static void main(String[] args) {
        int runs = args.length > 0 ? Integer.parseInt(args[0]) : RUNS;
        for (int run = 0; run < runs && wrong < 5; run++) {
            new ModelTest(run).go();
        }
        // A test of what doesn't come about would tell nothing.
        for (int fault = 0; fault <= 9; fault++) {
            came("grammar's FAULT " + fault, grammarFaults[fault]);
        }
        for (int fault : new int[] {0, 1, 3, 4, 5}) {
            came("TREE's FAULT " + fault, treeFaults[fault]);
        }
        for (int outcome = 0; outcome < 3; outcome++) {
            came("demand " + outcome, demands[outcome]);
            int answer = outcome == 2 ? -2 : outcome;
            came("EXACT " + answer, exact[answer + 2]);
        }
        came("EXACT but not PLAIN", exactButNotPlain);
        System.out.println(wrong == 0 ? "all answers are the model's" : wrong + " answers are not the model's");
        if (wrong != 0) {
            System.exit(1);
        }
    }

    private static void came(String what, int times) {
        System.out.println("  " + what + ": " + times);
        if (times == 0) {
            wrong++;
            System.out.println("never came: " + what);
        }
    }

    private void go() {
        boolean large = chance(3);
        boolean wide = chance(4);
        for (int round = 0; round < 3 && !isWrong; round++) {
            String text = wide ? wideText() : grammarText(large);
            if (chance(wide ? 5 : 50)) {
                text = spoil(text);
            }
            if (text.length() > 3000 || !put(text)) {
                continue;
            }
            int rules = check("grammar()", desk.grammar(), model.grammar());
            faults(grammarFaults);
            if (rules > 0) {
                lookAtGrammar();
            }
            for (int i = 0; i < 4 && !isWrong; i++) {
                lookAtTree();
            }
            for (int i = 0; i < 3; i++) {
                wildCall(wild(), wild(), wild());
            }
        }
    }

    private int callsLeft() {
        return CALLS - callCount;
    }

    private void lookAtTree() {
        String text = treeText();
        if (chance(30)) {
            text = spoil(text);
        }
        if (text.length() > 1500) {
            text = text.substring(0, 1500);
        }
        if (!put(text)) {
            return;
        }
        int nodes = check("tree()", desk.tree(), model.tree());
        if (nodes != -2) {
            faults(treeFaults);
        }
        int known = model.about(3);
        for (int i = 0; i < 12 && !isWrong && callsLeft() > 0; i++) {
            int n = random.nextInt(known + 2) - (chance(5) ? 1 : 0);
            int a = random.nextInt(7) - (chance(5) ? 1 : 0);
            switch (random.nextInt(8)) {
                case 0:
                    int v = random.nextInt(5) - 2;
                    check("own(" + n + ", " + v + ")", desk.own(n, v) ? 1 : 0, model.own(n, v) ? 1 : 0);
                    break;
                case 1:
                    askNode(n, random.nextInt(7) - 1);
                    break;
                case 2:
                    askValue(n, a, random.nextInt(4) - 1);
                    break;
                default:
                    demand(n, a);
                    break;
            }
        }
        lookAtValues(known);
    }

    private void demand(int n, int a) {
        int outcome = check("demand(" + n + ", " + a + ")", desk.demand(n, a), model.demand(n, a));
        demands[outcome < 0 ? 3 : outcome]++;
        if (outcome == 2 && (model.test(0) == 1 || model.test(1) == 1)) {
            isWrong = true;
            wrong++;
            System.out.println("run " + run + ": a TREE goes round that the tests let pass\n" + calls);
        }
    }

    private void lookAtValues(int known) {
        askAbout(random.nextInt(7) - 1);
        askAbout(4);
        int worked = model.about(4);
        for (int i = 0; i < 12; i++) {
            askOrder(worked <= 12 ? i : random.nextInt(worked + 2) - 1);
        }
        for (int i = 0; i < 8; i++) {
            int item = worked > 0 && chance(50) ? model.order(random.nextInt(worked)) : random.nextInt(6 * known + 6);
            askValue(item / 6, item % 6, 0);
            askValue(item / 6, item % 6, 1);
            askNode(random.nextInt(known + 2) - 1, random.nextInt(7) - 1);
        }
    }

    private void lookAtGrammar() {
        askAbout(1);
        askAbout(2);
        askAbout(3);
        for (int what = -1; what < 3; what++) {
            askTest(what);
        }
        exact[model.test(0) + 2]++;
        if (model.test(0) == 1 && model.test(1) == 0) {
            exactButNotPlain++;
        }
        int symbols = model.about(1);
        int rules = model.about(2);
        for (int s = 0; s < symbols; s++) {
            askSymbol(s, 2);
            askSymbol(s, 3);
            askGraph(s, random.nextInt(Math.max(0, model.symbol(s, 2)) + 2) - 1);
        }
        for (int r = 0; r < rules; r++) {
            askRule(r, 3 + random.nextInt(3));
        }
        for (int i = 0; i < 20; i++) {
            int s = random.nextInt(symbols + 2) - 1;
            askSymbol(s, chance(50) ? random.nextInt(6) - 1 : 98 + random.nextInt(10));
            askGraph(s, random.nextInt(Math.max(0, model.symbol(s, 2)) + 2) - 1);
            askRule(random.nextInt(rules + 2) - 1, random.nextInt(17) - 1);
        }
    }

    // What is asked, as long as there are calls left for it.

    private void askAbout(int what) {
        if (callsLeft() > 0) {
            check("about(" + what + ")", desk.about(what), model.about(what));
        }
    }

    private void askTest(int what) {
        if (callsLeft() > 0) {
            check("test(" + what + ")", desk.test(what), model.test(what));
        }
    }

    private void askSymbol(int s, int what) {
        if (callsLeft() > 0) {
            check("symbol(" + s + ", " + what + ")", desk.symbol(s, what), model.symbol(s, what));
        }
    }

    private void askGraph(int s, int i) {
        if (callsLeft() > 0) {
            check("graph(" + s + ", " + i + ")", desk.graph(s, i), model.graph(s, i));
        }
    }

    private void askRule(int r, int what) {
        if (callsLeft() > 0) {
            check("rule(" + r + ", " + what + ")", desk.rule(r, what), model.rule(r, what));
        }
    }

    private void askNode(int n, int what) {
        if (callsLeft() > 0) {
            check("node(" + n + ", " + what + ")", desk.node(n, what), model.node(n, what));
        }
    }

    private void askValue(int n, int a, int what) {
        if (callsLeft() > 0) {
            check("value(" + n + ", " + a + ", " + what + ")", desk.value(n, a, what), model.value(n, a, what));
        }
    }

    private void askOrder(int i) {
        if (callsLeft() > 0) {
            check("order(" + i + ")", desk.order(i), model.order(i));
        }
    }

    private int wild() {
        int[] some = {Integer.MIN_VALUE, Integer.MIN_VALUE + 1, -7, -1, 0, 1, 2, 5, 6, 11, 12, 13, 29, 30, 99, 100, 105,
            106, 199, 200, 1199, 1200, 3000, 3001, Integer.MAX_VALUE - 1, Integer.MAX_VALUE};
        return chance(20) ? random.nextInt() : some[random.nextInt(some.length)];
    }

    private void wildCall(int a, int b, int c) {
        if (callsLeft() < 15) {
            return;
        }
        String with = "(" + a + ", " + b + ", " + c + ")";
        check("fault" + with, desk.fault(a), model.fault(a));
        check("symbol" + with, desk.symbol(a, b), model.symbol(a, b));
        check("graph" + with, desk.graph(a, b), model.graph(a, b));
        check("rule" + with, desk.rule(a, b), model.rule(a, b));
        check("test" + with, desk.test(a), model.test(a));
        check("node" + with, desk.node(a, b), model.node(a, b));
        check("own" + with, desk.own(a, b) ? 1 : 0, model.own(a, b) ? 1 : 0);
        check("demand" + with, desk.demand(a, b), model.demand(a, b));
        check("value" + with, desk.value(a, b, c), model.value(a, b, c));
        check("order" + with, desk.order(a), model.order(a));
        check("about" + with, desk.about(a), model.about(a));
        check("feed" + with, desk.feed(a, b, c, a, b), model.feed(a, b, c, a, b));
        check("end" + with, desk.end(a), model.end(a));
        if (chance(10)) {
            check("tree" + with, desk.tree(), model.tree());
        }
        if (chance(5)) {
            check("grammar" + with, desk.grammar(), model.grammar());
        }
    }

    private void faults(int[] counts) {
        for (int what = -1; what < 3 && callsLeft() > 0; what++) {
            check("fault(" + what + ")", desk.fault(what), model.fault(what));
        }
        counts[model.fault(0)]++;
    }

    private int check(String call, int got, int want) {
        callCount++;
        calls.append(call).append('\n');
        if ((got != want || callCount > CALLS) && !isWrong) {
            isWrong = true;
            wrong++;
            System.out.println("run " + run + ": call " + callCount + ", " + call + ", answered " + got + ", the model "
                + want + "\n" + calls);
        }
        return want;
    }

    /** Whether there were calls left for it, and for one more. */
    private boolean put(String text) {
        if (callsLeft() < (text.length() + 19) / 20 + 3) {
            return false;
        }
        check("end(0)", desk.end(0), model.end(0));
        for (int i = 0; i < text.length(); i += 20) {
            int[] words = new int[5];
            for (int k = 0; k < 5; k++) {
                words[k] = Tape.word(text, i + 4 * k);
            }
            check("feed", desk.feed(words[0], words[1], words[2], words[3], words[4]), model.feed(words));
        }
        check("text " + text.replace("\n", "\\n"), desk.end(text.length()), model.end(text.length()));
        return true;
    }

    private boolean chance(int percent) {
        return random.nextInt(100) < percent;
    }

    // The texts.

    private String grammarText(boolean large) {
        StringBuilder text = new StringBuilder();
        rules.clear();
        attributes.clear();
        symbolCount = 1 + random.nextInt(large ? 13 : 4);
        for (int s = 0; s < symbolCount; s++) {
            StringBuilder kinds = new StringBuilder();
            int count = random.nextInt(large ? 8 : chance(2) ? 8 : 5);
            text.append("sym ").append((char) ('A' + s)).append(chance(2) ? "b" : "");
            for (int a = 0; a < count; a++) {
                boolean inherited = s == 0 ? chance(1) : chance(50);
                kinds.append(inherited ? 'i' : 's');
                text.append(inherited ? " inh " : " syn ").append((char) ('a' + a));
            }
            attributes.add(kinds.toString());
            text.append(chance(50) ? ";" : " ; ");
        }
        int ruleCount = 1 + random.nextInt(large ? 31 : 7);
        int occurrences = random.nextInt(4);
        for (int r = 0; r < ruleCount; r++) {
            text.append(rule(r, occurrences));
        }
        return text.toString();
    }

    private String rule(int r, int occurrences) {
        int childCount = chance(1) ? 4 : chance(40) ? 0 : random.nextInt(4);
        int[] symbols = new int[childCount + 1];
        for (int k = 0; k <= childCount; k++) {
            symbols[k] = k == 0 && r < symbolCount ? r : random.nextInt(symbolCount);
        }
        return rule(r, occurrences, symbols);
    }

    /** A symbol of many RULES, and so of many GRAPHS, that stands two or three times in one. */
    private String wideText() {
        rules.clear();
        attributes.clear();
        symbolCount = 2;
        attributes.add("s");
        attributes.add(new String[] {"isissi", "iiss", "sssiii", "siis", "siisi"}[random.nextInt(5)]);
        StringBuilder text = new StringBuilder();
        for (int s = 0; s < 2; s++) {
            text.append("sym ").append((char) ('A' + s));
            for (int a = 0; a < attributes.get(s).length(); a++) {
                text.append(attributes.get(s).charAt(a) == 'i' ? " inh " : " syn ").append((char) ('a' + a));
            }
            text.append(';');
        }
        text.append(rule(0, 3, chance(50) ? new int[] {0, 1, 1, 1} : new int[] {0, 1, 1}));
        int leaves = 2 + random.nextInt(22);
        for (int r = 1; r <= leaves && text.length() < 2600; r++) {
            text.append(rule(r, 3, chance(10) ? new int[] {1, 1} : new int[] {1}));
        }
        return text.toString();
    }

    private String rule(int r, int occurrences, int[] symbols) {
        int childCount = symbols.length - 1;
        StringBuilder text = new StringBuilder("rule ").append(ruleName(r)).append("=");
        for (int symbol : symbols) {
            text.append((char) ('A' + symbol)).append(' ');
        }
        rules.add(symbols);
        text.append(":");
        for (int k = childCount; k >= 0; k--) {
            String kinds = attributes.get(symbols[k]);
            for (int a = 0; a < kinds.length(); a++) {
                boolean due = kinds.charAt(a) == (k == 0 ? 's' : 'i');
                int times = random.nextInt(200) != 0 ? 1 : random.nextInt(3);
                for (int i = 0; i < times && due == (random.nextInt(1000) != 0); i++) {
                    text.append(k).append('.').append((char) ('a' + a)).append('=');
                    expression(text, symbols, chance(2) ? 6 : 1 + random.nextInt(3), occurrences);
                    text.append(';');
                }
            }
        }
        return text.append("end ").toString();
    }

    private static String ruleName(int r) {
        return "" + (char) ('a' + r / 8) + (char) ('a' + r % 8);
    }

    private void expression(StringBuilder text, int[] symbols, int depth, int occurrences) {
        int kind = depth == 0 ? random.nextInt(2) : random.nextInt(9);
        if (kind < 4) {
            operand(text, symbols, occurrences);
        } else if (kind < 6) {
            part(text, symbols, depth, occurrences);
            text.append(SIGNS[random.nextInt(SIGNS.length)]);
            part(text, symbols, depth, occurrences);
        } else if (kind == 6) {
            int count = chance(3) ? 21 : random.nextInt(4);
            text.append("- ".repeat(count));
            operand(text, symbols, occurrences);
        } else if (kind == 7) {
            text.append("if ");
            expression(text, symbols, depth - 1, occurrences);
            text.append(" then ");
            expression(text, symbols, depth - 1, occurrences);
            text.append(" else ");
            expression(text, symbols, depth - 1, occurrences);
        } else {
            int count = chance(3) ? 21 : 1 + random.nextInt(2);
            text.append("(".repeat(count));
            expression(text, symbols, depth - 1, occurrences);
            text.append(")".repeat(count));
        }
    }

    private void part(StringBuilder text, int[] symbols, int depth, int occurrences) {
        boolean inner = chance(50);
        text.append(inner ? "(" : "");
        if (inner || chance(20)) {
            expression(text, symbols, depth - 1, occurrences);
        } else {
            operand(text, symbols, occurrences);
        }
        text.append(inner ? ")" : "");
    }

    private void operand(StringBuilder text, int[] symbols, int occurrences) {
        if (random.nextInt(4) > occurrences) {
            text.append(chance(60) ? "own" : random.nextInt(500) == 0 ? "2147483648" : "" + random.nextInt(4));
            return;
        }
        int k = random.nextInt(symbols.length);
        // Mostly of what is known from outside: the HEAD's inherited, the CHILDREN's synthesized ones.
        String kinds = attributes.get(symbols[k]);
        List<Integer> fitting = new ArrayList<>();
        boolean any = chance(10);
        for (int a = 0; a < kinds.length(); a++) {
            if (any || kinds.charAt(a) == (k == 0 ? 'i' : 's')) {
                fitting.add(a);
            }
        }
        if (fitting.isEmpty()) {
            text.append("own");
        } else {
            text.append(k).append('.').append((char) ('a' + fitting.get(random.nextInt(fitting.size()))));
        }
    }

    private String treeText() {
        StringBuilder text = new StringBuilder();
        int most = chance(10) ? 44 : 2 + random.nextInt(8);
        tree(text, 0, most);
        return text.toString();
    }

    private void tree(StringBuilder text, int symbol, int depth) {
        List<Integer> fitting = new ArrayList<>();
        int fewest = -1;
        for (int r = 0; r < rules.size(); r++) {
            if (rules.get(r)[0] == symbol) {
                fitting.add(r);
                if (fewest < 0 || rules.get(r).length < rules.get(fewest).length) {
                    fewest = r;
                }
            }
        }
        if (fitting.isEmpty() || depth < -3 || text.length() > 1400) {
            text.append(chance(50) ? "(aa)" : "");
            return;
        }
        int r = depth <= 0 ? fewest : fitting.get(random.nextInt(fitting.size()));
        text.append('(').append(ruleName(r));
        if (chance(50)) {
            text.append(' ').append(random.nextInt(6));
        }
        for (int k = 1; k < rules.get(r).length; k++) {
            tree(text, rules.get(r)[k], depth - 1);
        }
        text.append(')');
    }

    /** Cuts out, puts in or doubles a few signs or words. */
    private String spoil(String text) {
        StringBuilder spoilt = new StringBuilder(text);
        int times = 1 + random.nextInt(2);
        for (int i = 0; i < times && spoilt.length() > 0; i++) {
            int at = random.nextInt(spoilt.length() + 1);
            int to = Math.min(spoilt.length(), at + 1 + random.nextInt(3));
            switch (random.nextInt(5)) {
                case 0:
                    spoilt.delete(at, to);
                    break;
                case 1:
                    spoilt.insert(at, spoilt.substring(at, Math.min(spoilt.length(), at + random.nextInt(30))));
                    break;
                case 2:
                    int from = random.nextInt(spoilt.length() + 1);
                    spoilt.insert(at, spoilt.substring(from, Math.min(spoilt.length(), from + random.nextInt(12))));
                    break;
                case 3:
                    String scrap = SCRAPS[random.nextInt(SCRAPS.length)];
                    spoilt.insert(at, chance(50) ? scrap : " " + scrap + " ");
                    break;
                default:
                    if (at < to) {
                        spoilt.replace(at, to, SCRAPS[random.nextInt(SCRAPS.length)]);
                    }
                    break;
            }
        }
        return spoilt.toString();
    }
}
