import java.math.BigInteger;
import java.util.ArrayList;
import java.util.HashSet;
import java.util.LinkedHashMap;
import java.util.List;
import java.util.Map;
import java.util.Set;
import java.util.TreeSet;
import java.util.regex.Matcher;
import java.util.regex.Pattern;

/**
 * The document told a second time, by other means (recursive descent, sets, searches), so that
 * ModelTest can hold the answers of AttributeDesk against it.
 */
final class DeskModel {
    static final int NONE = -1;

    private static final Pattern PARTS = Pattern.compile("[a-zA-Z]+|[0-9]+|.", Pattern.DOTALL);
    private static final Set<String> KEYS = Set.of("sym", "inh", "syn", "rule", "end", "own", "if", "then", "else");

    private static final class Fault extends RuntimeException {
        final int code;
        final int place;

        Fault(int code, int place) {
            super(null, null, false, false);
            this.code = code;
            this.place = place;
        }
    }

    private static final class Round extends RuntimeException {
        Round() {
            super(null, null, false, false);
        }
    }

    private record Token(String kind, String text, int place) {
        BigInteger number() {
            return new BigInteger(text);
        }
    }

    private static final class Symbol {
        String name;
        final List<String> attributes = new ArrayList<>();
        final List<Boolean> inherited = new ArrayList<>();

        int count(boolean which) {
            int count = 0;
            for (boolean one : inherited) {
                count += one == which ? 1 : 0;
            }
            return count;
        }

        int rank(int attribute) {
            int rank = 0;
            for (int a = 0; a < attribute; a++) {
                rank += inherited.get(a).equals(inherited.get(attribute)) ? 1 : 0;
            }
            return rank;
        }

        int bit(int from, int to) {
            return 1 << (rank(from) * count(false) + rank(to));
        }
    }

    /** An attribute at a place of a RULE. */
    private record Spot(int place, int attribute) {
    }

    private static final class Expression {
        final String kind;
        final int number;
        final Spot spot;
        final List<Expression> parts;

        Expression(String kind, int number, Spot spot, Expression... parts) {
            this.kind = kind;
            this.number = number;
            this.spot = spot;
            this.parts = List.of(parts);
        }

        void listSpots(List<Spot> into) {
            if (spot != null) {
                into.add(spot);
            }
            for (Expression part : parts) {
                part.listSpots(into);
            }
        }

        List<Spot> spots() {
            List<Spot> all = new ArrayList<>();
            listSpots(all);
            return all;
        }
    }

    private static final class Rule {
        String name;
        final List<Integer> symbols = new ArrayList<>();
        final Map<Spot, Expression> equations = new LinkedHashMap<>();
        boolean comes;
        boolean plainRound;
        boolean exactRound;
    }

    private static final class Grammar {
        final List<Symbol> symbols = new ArrayList<>();
        final List<Rule> rules = new ArrayList<>();
        final List<TreeSet<Integer>> graphs = new ArrayList<>();
        final List<Integer> plain = new ArrayList<>();
        boolean tooLarge;

        int symbol(String name) {
            for (int s = 0; s < symbols.size(); s++) {
                if (symbols.get(s).name.equals(name)) {
                    return s;
                }
            }
            return NONE;
        }

        int rule(String name) {
            for (int r = 0; r < rules.size(); r++) {
                if (rules.get(r).name.equals(name)) {
                    return r;
                }
            }
            return NONE;
        }
    }

    private static final class Node {
        int rule;
        Node above;
        int place;
        int own;
        int number;
        final List<Node> children = new ArrayList<>();
        final Integer[] values = new Integer[6];
        final boolean[] done = new boolean[6];
        final boolean[] onWay = new boolean[6];
    }

    private final StringBuilder tape = new StringBuilder();
    private Grammar grammar = null;
    private List<Node> nodes = new ArrayList<>();
    private final List<Integer> order = new ArrayList<>();
    private int fault = NONE;
    private int faultPlace = NONE;

    // What is read, TOKEN by TOKEN.
    private List<Token> tokens;
    private int next;
    private int eaten;

    int feed(int... words) {
        if (tape.length() + 20 > 3000) {
            return NONE;
        }
        for (int word : words) {
            for (int i = 3; i >= 0; i--) {
                tape.append((char) (word >>> (8 * i) & 255));
            }
        }
        return tape.length();
    }

    int end(int n) {
        if (n < 0 || n > tape.length()) {
            return NONE;
        }
        tape.setLength(n);
        return n;
    }

    int grammar() {
        Grammar read = new Grammar();
        try {
            begin();
            readGrammar(read);
        } catch (Fault found) {
            fault = found.code;
            faultPlace = found.place;
            return NONE;
        }
        fault = 0;
        faultPlace = NONE;
        grammar = read;
        nodes = new ArrayList<>();
        order.clear();
        study();
        return grammar.rules.size();
    }

    int tree() {
        if (grammar == null) {
            return -2;
        }
        List<Node> read = new ArrayList<>();
        try {
            begin();
            readTree(read, null, 0, 0);
            require(peek().kind.equals("end"));
        } catch (Fault found) {
            fault = found.code;
            faultPlace = found.place;
            return NONE;
        }
        fault = 0;
        faultPlace = NONE;
        nodes = read;
        order.clear();
        return nodes.size();
    }

    int fault(int what) {
        return what == 0 ? fault : what == 1 ? faultPlace : NONE;
    }

    int symbol(int s, int what) {
        if (grammar == null || s < 0 || s >= grammar.symbols.size()) {
            return NONE;
        }
        Symbol symbol = grammar.symbols.get(s);
        if (what >= 100 && what < 100 + symbol.attributes.size()) {
            return symbol.inherited.get(what - 100) ? 1 : 0;
        }
        return switch (what) {
            case 0 -> symbol.attributes.size();
            case 1 -> symbol.count(true);
            case 2 -> grammar.tooLarge ? -2 : grammar.graphs.get(s).size();
            case 3 -> grammar.plain.get(s);
            default -> NONE;
        };
    }

    int graph(int s, int i) {
        if (grammar == null || s < 0 || s >= grammar.symbols.size() || grammar.tooLarge) {
            return NONE;
        }
        List<Integer> rising = new ArrayList<>(grammar.graphs.get(s));
        return i < 0 || i >= rising.size() ? NONE : rising.get(i);
    }

    int rule(int r, int what) {
        if (grammar == null || r < 0 || r >= grammar.rules.size()) {
            return NONE;
        }
        Rule rule = grammar.rules.get(r);
        if (what > 10 && what < 10 + rule.symbols.size()) {
            return rule.symbols.get(what - 10);
        }
        return switch (what) {
            case 0 -> rule.symbols.get(0);
            case 1 -> rule.symbols.size() - 1;
            case 2 -> rule.equations.size();
            case 3 -> rule.comes ? 1 : 0;
            case 4 -> rule.plainRound ? 1 : 0;
            case 5 -> grammar.tooLarge ? -2 : rule.exactRound ? 1 : 0;
            default -> NONE;
        };
    }

    int test(int what) {
        if (grammar == null || what < 0 || what > 1) {
            return NONE;
        }
        if (what == 0 && grammar.tooLarge) {
            return -2;
        }
        for (Rule rule : grammar.rules) {
            if (what == 0 ? rule.comes && rule.exactRound : rule.plainRound) {
                return 0;
            }
        }
        return 1;
    }

    int node(int n, int what) {
        if (n < 0 || n >= nodes.size()) {
            return NONE;
        }
        Node node = nodes.get(n);
        return switch (what) {
            case 0 -> node.rule;
            case 1 -> node.above == null ? NONE : node.above.number;
            case 2 -> node.place;
            case 3 -> node.own;
            case 4 -> grammar.rules.get(node.rule).symbols.get(0);
            default -> NONE;
        };
    }

    boolean own(int n, int v) {
        if (n < 0 || n >= nodes.size()) {
            return false;
        }
        if (nodes.get(n).own != v) {
            nodes.get(n).own = v;
            for (Node node : nodes) {
                java.util.Arrays.fill(node.done, false);
            }
            order.clear();
        }
        return true;
    }

    int demand(int n, int a) {
        if (!exists(n, a)) {
            return NONE;
        }
        try {
            work(nodes.get(n), a);
        } catch (Round round) {
            for (Node node : nodes) {
                java.util.Arrays.fill(node.onWay, false);
            }
            return 2;
        }
        return nodes.get(n).values[a] == null ? 1 : 0;
    }

    int value(int n, int a, int what) {
        if (!exists(n, a) || what < 0 || what > 1) {
            return NONE;
        }
        Node node = nodes.get(n);
        if (!node.done[a]) {
            return what == 0 ? NONE : 0;
        }
        if (node.values[a] == null) {
            return what == 0 ? 1 : 0;
        }
        return what == 0 ? 0 : node.values[a];
    }

    int order(int i) {
        return i < 0 || i >= order.size() ? NONE : order.get(i);
    }

    int about(int what) {
        return switch (what) {
            case 0 -> tape.length();
            case 1 -> grammar == null ? 0 : grammar.symbols.size();
            case 2 -> grammar == null ? 0 : grammar.rules.size();
            case 3 -> nodes.size();
            case 4 -> order.size();
            default -> NONE;
        };
    }

    // The reading.

    private void begin() {
        tokens = new ArrayList<>();
        Matcher matcher = PARTS.matcher(tape);
        int from = 0;
        while (matcher.find(from)) {
            String text = matcher.group();
            from = matcher.end();
            char first = text.charAt(0);
            if (first == ' ' || first == '\n') {
                continue;
            }
            String kind = "wrong";
            if (Character.isLetter(first) && first < 128) {
                kind = KEYS.contains(text) ? text : text.length() <= 8 ? "name" : "wrong";
            } else if (first >= '0' && first <= '9') {
                kind = "number";
            } else if (";:=.()<+-*/%".indexOf(first) >= 0) {
                kind = text;
            }
            tokens.add(new Token(kind, text, matcher.start()));
        }
        tokens.add(new Token("end of text", "", tape.length()));
        tokens.set(tokens.size() - 1, new Token("end of text", "", tape.length()));
        // The keyword end and the end of the text must not be mixed up.
        for (int i = 0; i < tokens.size(); i++) {
            Token token = tokens.get(i);
            String kind = token.kind.equals("end") ? "rule end" : token.kind.equals("end of text") ? "end" : token.kind;
            tokens.set(i, new Token(kind, token.text, token.place));
        }
        tape.setLength(0);
        next = 0;
    }

    private Token peek() {
        return tokens.get(next);
    }

    private boolean sees(String kind) {
        return peek().kind.equals(kind);
    }

    private void failIf(boolean fails, int code) {
        if (fails) {
            throw new Fault(code, peek().place);
        }
    }

    private void require(boolean stands) {
        failIf(!stands, 1);
    }

    private Token take(String kind) {
        require(sees(kind));
        return tokens.get(next++);
    }

    private void readGrammar(Grammar into) {
        do {
            take("sym");
            require(sees("name"));
            failIf(into.symbol(peek().text) != NONE, 2);
            failIf(into.symbols.size() == 12, 4);
            Symbol symbol = new Symbol();
            symbol.name = take("name").text;
            into.symbols.add(symbol);
            while (sees("inh") || sees("syn")) {
                boolean inherited = tokens.get(next++).kind.equals("inh");
                require(sees("name"));
                failIf(symbol.attributes.contains(peek().text), 2);
                failIf(symbol.attributes.size() == 6, 4);
                symbol.attributes.add(take("name").text);
                symbol.inherited.add(inherited);
            }
            take(";");
        } while (!sees("rule") && sees("sym"));
        do {
            readRule(into);
        } while (!sees("end"));
        failIf(into.symbols.get(0).count(true) > 0, 9);
    }

    private void readRule(Grammar into) {
        take("rule");
        require(sees("name"));
        failIf(into.rule(peek().text) != NONE, 2);
        failIf(into.rules.size() == 30, 4);
        Rule rule = new Rule();
        rule.name = take("name").text;
        into.rules.add(rule);
        take("=");
        do {
            require(sees("name"));
            int symbol = into.symbol(peek().text);
            failIf(symbol == NONE, 3);
            failIf(rule.symbols.size() == 4, 4);
            rule.symbols.add(symbol);
            next++;
        } while (!sees(":"));
        take(":");
        while (!sees("rule end")) {
            readEquation(into, rule);
        }
        for (int place = 0; place < rule.symbols.size(); place++) {
            Symbol symbol = into.symbols.get(rule.symbols.get(place));
            for (int a = 0; a < symbol.attributes.size(); a++) {
                boolean due = place == 0 ? !symbol.inherited.get(a) : symbol.inherited.get(a);
                failIf(due && !rule.equations.containsKey(new Spot(place, a)), 8);
            }
        }
        take("rule end");
    }

    private void readEquation(Grammar into, Rule rule) {
        require(sees("number"));
        int place = readPlace(rule);
        next++;
        take(".");
        Symbol symbol = into.symbols.get(rule.symbols.get(place));
        require(sees("name"));
        int attribute = symbol.attributes.indexOf(peek().text);
        failIf(attribute == NONE, 3);
        failIf(symbol.inherited.get(attribute) == (place == 0), 6);
        Spot spot = new Spot(place, attribute);
        failIf(rule.equations.containsKey(spot), 7);
        next++;
        take("=");
        eaten = 0;
        rule.equations.put(spot, readE(into, rule, 0));
        take(";");
    }

    private int readPlace(Rule rule) {
        BigInteger number = peek().number();
        failIf(number.compareTo(BigInteger.valueOf(rule.symbols.size())) >= 0, 3);
        return number.intValue();
    }

    private Token eat(String kind) {
        require(sees(kind));
        failIf(eaten == 40, 4);
        eaten++;
        return tokens.get(next++);
    }

    private Token eatOpening(String kind, int open) {
        require(sees(kind));
        failIf(open == 20, 4);
        return eat(kind);
    }

    private Expression readE(Grammar into, Rule rule, int open) {
        if (!sees("if")) {
            return readC(into, rule, open);
        }
        eatOpening("if", open);
        Expression first = readE(into, rule, open + 1);
        eat("then");
        Expression second = readE(into, rule, open + 1);
        eat("else");
        return new Expression("if", 0, null, first, second, readE(into, rule, open + 1));
    }

    private Expression readC(Grammar into, Rule rule, int open) {
        Expression left = readS(into, rule, open);
        if (sees("<") || sees("=")) {
            String sign = eat(peek().kind).kind;
            return new Expression(sign, 0, null, left, readS(into, rule, open));
        }
        return left;
    }

    private Expression readS(Grammar into, Rule rule, int open) {
        Expression left = readT(into, rule, open);
        while (sees("+") || sees("-")) {
            String sign = eat(peek().kind).kind;
            left = new Expression(sign, 0, null, left, readT(into, rule, open));
        }
        return left;
    }

    private Expression readT(Grammar into, Rule rule, int open) {
        Expression left = readU(into, rule, open);
        while (sees("*") || sees("/") || sees("%")) {
            String sign = eat(peek().kind).kind;
            left = new Expression(sign, 0, null, left, readU(into, rule, open));
        }
        return left;
    }

    private Expression readU(Grammar into, Rule rule, int open) {
        if (sees("-")) {
            eatOpening("-", open);
            return new Expression("minus", 0, null, readU(into, rule, open + 1));
        }
        if (sees("(")) {
            eatOpening("(", open);
            Expression inner = readE(into, rule, open + 1);
            eat(")");
            return inner;
        }
        if (sees("own")) {
            eat("own");
            return new Expression("own", 0, null);
        }
        require(sees("number"));
        if (!tokens.get(next + 1).kind.equals(".")) {
            failIf(eaten == 40, 4);
            failIf(peek().number().bitLength() > 31, 5);
            return new Expression("number", eat("number").number().intValue(), null);
        }
        int place = readPlace(rule);
        eat("number");
        eat(".");
        require(sees("name"));
        int attribute = into.symbols.get(rule.symbols.get(place)).attributes.indexOf(peek().text);
        failIf(attribute == NONE, 3);
        eat("name");
        return new Expression("occ", 0, new Spot(place, attribute));
    }

    private Node readTree(List<Node> into, Node above, int place, int open) {
        require(sees("("));
        failIf(into.size() == 200 || open == 40, 4);
        next++;
        Node node = new Node();
        node.number = into.size();
        node.above = above;
        node.place = place;
        into.add(node);
        require(sees("name"));
        int due = above == null ? 0 : grammar.rules.get(above.rule).symbols.get(place);
        node.rule = grammar.rule(peek().text);
        failIf(node.rule == NONE || grammar.rules.get(node.rule).symbols.get(0) != due, 3);
        next++;
        if (sees("number")) {
            failIf(peek().number().bitLength() > 31, 5);
            node.own = take("number").number().intValue();
        }
        for (int k = 1; k < grammar.rules.get(node.rule).symbols.size(); k++) {
            node.children.add(readTree(into, node, k, open + 1));
        }
        take(")");
        return node;
    }

    // The tests.

    private void study() {
        for (int s = 0; s < grammar.symbols.size(); s++) {
            grammar.graphs.add(new TreeSet<>());
            grammar.plain.add(0);
        }
        findComing();
        boolean grows = true;
        while (grows) {
            grows = false;
            for (Rule rule : grammar.rules) {
                List<Integer> graphs = new ArrayList<>();
                for (int k = 1; k < rule.symbols.size(); k++) {
                    graphs.add(grammar.plain.get(rule.symbols.get(k)));
                }
                Map<Spot, Set<Spot>> ways = ways(rule, graphs);
                rule.plainRound = isRound(ways);
                int head = rule.symbols.get(0);
                int joined = grammar.plain.get(head) | graphOf(rule, ways);
                grows |= joined != grammar.plain.get(head);
                grammar.plain.set(head, joined);
            }
        }
        grows = true;
        while (grows && !grammar.tooLarge) {
            grows = false;
            for (Rule rule : grammar.rules) {
                grows |= takeGraphs(rule);
            }
        }
    }

    private void findComing() {
        Set<Integer> ended = new HashSet<>();
        for (int pass = 0; pass < 20; pass++) {
            for (Rule rule : grammar.rules) {
                if (ended.containsAll(rule.symbols.subList(1, rule.symbols.size()))) {
                    ended.add(rule.symbols.get(0));
                }
            }
        }
        Set<Integer> reached = new HashSet<>(Set.of(0));
        for (int pass = 0; pass < 20; pass++) {
            for (Rule rule : grammar.rules) {
                List<Integer> children = rule.symbols.subList(1, rule.symbols.size());
                if (reached.contains(rule.symbols.get(0)) && ended.containsAll(children)) {
                    rule.comes = true;
                    reached.addAll(children);
                }
            }
        }
    }

    private boolean takeGraphs(Rule rule) {
        List<List<Integer>> choices = new ArrayList<>();
        choices.add(new ArrayList<>());
        long all = 1;
        for (int k = 1; k < rule.symbols.size(); k++) {
            all *= grammar.graphs.get(rule.symbols.get(k)).size();
        }
        if (all > 2000) {
            grammar.tooLarge = true;
            return false;
        }
        for (int k = 1; k < rule.symbols.size(); k++) {
            List<List<Integer>> longer = new ArrayList<>();
            for (List<Integer> choice : choices) {
                for (int graph : grammar.graphs.get(rule.symbols.get(k))) {
                    List<Integer> one = new ArrayList<>(choice);
                    one.add(graph);
                    longer.add(one);
                }
            }
            choices = longer;
        }
        boolean grows = false;
        for (List<Integer> choice : choices) {
            Map<Spot, Set<Spot>> ways = ways(rule, choice);
            rule.exactRound |= isRound(ways);
            grows |= grammar.graphs.get(rule.symbols.get(0)).add(graphOf(rule, ways));
        }
        return grows;
    }

    /** Of each spot those that it hangs on, by whatever ways. */
    private Map<Spot, Set<Spot>> ways(Rule rule, List<Integer> graphs) {
        Map<Spot, Set<Spot>> steps = new LinkedHashMap<>();
        for (Map.Entry<Spot, Expression> equation : rule.equations.entrySet()) {
            steps.put(equation.getKey(), new HashSet<>(equation.getValue().spots()));
        }
        for (int k = 1; k < rule.symbols.size(); k++) {
            Symbol symbol = grammar.symbols.get(rule.symbols.get(k));
            for (int i = 0; i < symbol.attributes.size(); i++) {
                for (int s = 0; s < symbol.attributes.size(); s++) {
                    if (symbol.inherited.get(i) && !symbol.inherited.get(s)
                            && (graphs.get(k - 1) & symbol.bit(i, s)) != 0) {
                        steps.computeIfAbsent(new Spot(k, s), x -> new HashSet<>()).add(new Spot(k, i));
                    }
                }
            }
        }
        Map<Spot, Set<Spot>> ways = new LinkedHashMap<>();
        for (Spot from : steps.keySet()) {
            Set<Spot> met = new HashSet<>();
            List<Spot> open = new ArrayList<>(steps.get(from));
            while (!open.isEmpty()) {
                Spot one = open.remove(open.size() - 1);
                if (met.add(one)) {
                    open.addAll(steps.getOrDefault(one, Set.of()));
                }
            }
            ways.put(from, met);
        }
        return ways;
    }

    private static boolean isRound(Map<Spot, Set<Spot>> ways) {
        for (Map.Entry<Spot, Set<Spot>> way : ways.entrySet()) {
            if (way.getValue().contains(way.getKey())) {
                return true;
            }
        }
        return false;
    }

    private int graphOf(Rule rule, Map<Spot, Set<Spot>> ways) {
        Symbol symbol = grammar.symbols.get(rule.symbols.get(0));
        int graph = 0;
        for (int i = 0; i < symbol.attributes.size(); i++) {
            for (int s = 0; s < symbol.attributes.size(); s++) {
                if (symbol.inherited.get(i) && !symbol.inherited.get(s)
                        && ways.getOrDefault(new Spot(0, s), Set.of()).contains(new Spot(0, i))) {
                    graph |= symbol.bit(i, s);
                }
            }
        }
        return graph;
    }

    // The attributes.

    private Symbol symbolOf(Node node) {
        return grammar.symbols.get(grammar.rules.get(node.rule).symbols.get(0));
    }

    private boolean exists(int n, int a) {
        return n >= 0 && n < nodes.size() && a >= 0 && a < symbolOf(nodes.get(n)).attributes.size();
    }

    private void work(Node node, int a) {
        if (node.done[a]) {
            return;
        }
        if (node.onWay[a]) {
            throw new Round();
        }
        node.onWay[a] = true;
        boolean inherited = symbolOf(node).inherited.get(a);
        Node base = inherited ? node.above : node;
        Expression e = grammar.rules.get(base.rule).equations.get(new Spot(inherited ? node.place : 0, a));
        for (Spot spot : e.spots()) {
            work(nodeAt(base, spot.place), spot.attribute);
        }
        node.values[a] = valueOf(base, e);
        node.done[a] = true;
        node.onWay[a] = false;
        order.add(6 * node.number + a);
    }

    private static Node nodeAt(Node base, int place) {
        return place == 0 ? base : base.children.get(place - 1);
    }

    /** Null stands for BAD. */
    private Integer valueOf(Node base, Expression e) {
        switch (e.kind) {
            case "number":
                return e.number;
            case "own":
                return base.own;
            case "occ":
                return nodeAt(base, e.spot.place).values[e.spot.attribute];
            case "if":
                Integer chooses = valueOf(base, e.parts.get(0));
                return chooses == null ? null : valueOf(base, e.parts.get(chooses != 0 ? 1 : 2));
            case "minus":
                Integer inner = valueOf(base, e.parts.get(0));
                return inner == null ? null : (Integer) (0 - inner);
            default:
                Integer left = valueOf(base, e.parts.get(0));
                Integer right = valueOf(base, e.parts.get(1));
                return left == null || right == null ? null : combine(e.kind, left, right);
        }
    }

    private static Integer combine(String sign, int left, int right) {
        if (right == 0 && (sign.equals("/") || sign.equals("%"))) {
            return null;
        }
        return switch (sign) {
            case "+" -> left + right;
            case "-" -> left - right;
            case "*" -> left * right;
            case "/" -> left / right;
            case "%" -> left % right;
            case "<" -> left < right ? 1 : 0;
            default -> left == right ? 1 : 0;
        };
    }
}
