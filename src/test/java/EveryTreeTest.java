import java.util.ArrayList;
import java.util.BitSet;
import java.util.List;
import java.util.Random;
import java.util.TreeSet;

/**
 * Grammars that come of fixed seeds, and for each of them all TREES of few NODES, one by one: each TREE's whole graph is
 * drawn, without any of the steps by which the class comes to its answers, and held against GRAPHS, the tests, rule()
 * and what is demanded.
 */
public final class EveryTreeTest {
    private static final int GRAMMARS = 500;
    private static final int NODES = 9;
    private static final int TREES = 4000;
    private static final int CALLS = 512;

    private record Spot(int place, int attribute) {
    }

    private record Equation(Spot target, List<Spot> named) {
    }

    private record Rule(int[] symbols, List<Equation> equations) {
    }

    private record Tree(int rule, List<Tree> children) {
        int size() {
            int size = 1;
            for (Tree child : children) {
                size += child.size();
            }
            return size;
        }
    }

    private static int wrong = 0;
    private static int treesSeen = 0;
    private static int treesRound = 0;
    private static int setsFull = 0;
    private static int setsOfMany = 0;
    private static int setsOpen = 0;
    private static int exactOnly = 0;
    private static int roundUnseen = 0;
    private static int rulesAsShown = 0;
    private static int rulesOpen = 0;

    private final int run;
    private final Random random;
    private final AttributeDesk desk = new AttributeDesk();
    private int calls = 0;
    private final List<String> kinds = new ArrayList<>();
    private final List<Rule> rules = new ArrayList<>();
    /** Of each symbol the TREES by how many NODES they have. */
    private final List<List<List<Tree>>> trees = new ArrayList<>();

    // The graph of the TREE at hand: of each attribute, as 6 * NODE + number, those that it hangs on.
    private final List<BitSet> steps = new ArrayList<>();

    private EveryTreeTest(int run) {
        this.run = run;
        random = new Random(run);
    }

    public static void main(String[] args) {
        int grammars = args.length > 0 ? Integer.parseInt(args[0]) : GRAMMARS;
        for (int run = 0; run < grammars && wrong < 5; run++) {
            new EveryTreeTest(run).go();
        }
        System.out.println("  TREES: " + treesSeen + ", of these go round " + treesRound);
        System.out.println("  sets of GRAPHS that the TREES show in full: " + setsFull + ", of these with two or more "
            + setsOfMany + "; in part: " + setsOpen);
        System.out.println("  grammars that pass the EXACT test alone: " + exactOnly
            + "; that go round in larger TREES alone: " + roundUnseen);
        System.out.println("  answers of rule() that TREES show: " + rulesAsShown + "; that would take larger ones: "
            + rulesOpen);
        if (treesRound == 0 || setsOfMany == 0 || exactOnly == 0 || (setsOpen + rulesOpen) * 20 > setsFull) {
            wrong++;
            System.out.println("too few of these");
        }
        System.out.println(wrong == 0 ? "all TREES are as the class tells" : wrong + " answers are wrong");
        if (wrong != 0) {
            System.exit(1);
        }
    }

    private void go() {
        String text = makeGrammar();
        due("grammar() of " + text, ask(text, false), rules.size());
        int exact = count(desk.test(0));
        int plain = count(desk.test(1));
        if (exact == -2) {
            return;
        }
        growTrees();
        for (int s = 0; s < kinds.size(); s++) {
            lookAtGraphs(s);
        }
        lookAtRules();
        boolean found = lookAtTreesOfFirst(exact);
        exactOnly += exact == 1 && plain == 0 ? 1 : 0;
        roundUnseen += exact == 0 && !found ? 1 : 0;
        due("the PLAIN test lets pass only what the EXACT one does", plain == 1 && exact == 0, false);
    }

    private void lookAtGraphs(int symbol) {
        TreeSet<Integer> shown = new TreeSet<>();
        for (List<Tree> ofSize : trees.get(symbol)) {
            for (Tree tree : ofSize) {
                draw(tree);
                shown.add(graphOf(symbol));
            }
        }
        TreeSet<Integer> told = new TreeSet<>();
        int many = count(desk.symbol(symbol, 2));
        int last = -1;
        for (int i = 0; i < many; i++) {
            int graph = count(desk.graph(symbol, i));
            due("GRAPHS rise", graph > last, true);
            last = graph;
            told.add(graph);
        }
        due("GRAPHS of " + symbol + " " + told + " have all that TREES show " + shown, told.containsAll(shown), true);
        setsFull += told.equals(shown) ? 1 : 0;
        setsOfMany += told.equals(shown) && told.size() > 1 ? 1 : 0;
        setsOpen += told.equals(shown) ? 0 : 1;
    }

    private void lookAtRules() {
        BitSet comes = new BitSet();
        for (List<Tree> ofSize : trees.get(0)) {
            for (Tree tree : ofSize) {
                List<Integer> met = new ArrayList<>();
                listRules(tree, met);
                met.forEach(comes::set);
            }
        }
        BitSet round = new BitSet();
        for (List<List<Tree>> ofSymbol : trees) {
            for (List<Tree> ofSize : ofSymbol) {
                for (Tree tree : ofSize) {
                    if (!round.get(tree.rule) && goesRoundAtRoot(tree)) {
                        round.set(tree.rule);
                    }
                }
            }
        }
        for (int r = 0; r < rules.size(); r++) {
            lookAtRule(r, 3, comes.get(r));
            lookAtRule(r, 5, round.get(r));
        }
    }

    private void lookAtRule(int r, int what, boolean shown) {
        int told = count(desk.rule(r, what));
        due("rule(" + r + ", " + what + ") is 0 or 1", told == 0 || told == 1, true);
        if (shown) {
            due("rule(" + r + ", " + what + ")", told, 1);
        }
        rulesAsShown += told == (shown ? 1 : 0) ? 1 : 0;
        rulesOpen += told == 1 && !shown ? 1 : 0;
    }

    /** Whether a way round takes a step that is of the root's own RULE. */
    private boolean goesRoundAtRoot(Tree tree) {
        draw(tree);
        int[] nodes = nodesAt(tree, 0);
        for (Equation equation : rules.get(tree.rule).equations) {
            int from = 6 * nodes[equation.target.place] + equation.target.attribute;
            for (Spot spot : equation.named) {
                int to = 6 * nodes[spot.place] + spot.attribute;
                if (to == from || reached(to).get(from)) {
                    return true;
                }
            }
        }
        return false;
    }

    /** Whether one goes round. */
    private boolean lookAtTreesOfFirst(int exact) {
        boolean found = false;
        int asked = 0;
        for (List<Tree> ofSize : trees.get(0)) {
            for (Tree tree : ofSize) {
                treesSeen++;
                draw(tree);
                boolean round = !ofRound().isEmpty();
                treesRound += round ? 1 : 0;
                if (round && exact == 1) {
                    due("the EXACT test lets " + textOf(tree) + " pass", exact, 0);
                }
                if (asked < 3 || round && !found) {
                    asked++;
                    demandAll(tree);
                }
                found |= round;
            }
        }
        return found;
    }

    private void demandAll(Tree tree) {
        BitSet round = ofRound();
        String text = textOf(tree);
        if (CALLS - calls < text.length() / 20 + 6 + tree.size() * 6) {
            return;
        }
        due("tree() of " + text, ask(text, true), tree.size());
        List<Integer> rulesOfNodes = new ArrayList<>();
        listRules(tree, rulesOfNodes);
        for (int n = 0; n < rulesOfNodes.size(); n++) {
            int attributes = kinds.get(rules.get(rulesOfNodes.get(n)).symbols[0]).length();
            for (int a = 0; a < attributes; a++) {
                BitSet hangs = reached(6 * n + a);
                hangs.set(6 * n + a);
                due("demand(" + n + ", " + a + ") in " + text, count(desk.demand(n, a)), hangs.intersects(round) ? 2 : 0);
            }
        }
    }

    private void listRules(Tree tree, List<Integer> into) {
        into.add(tree.rule);
        for (Tree child : tree.children) {
            listRules(child, into);
        }
    }

    // The graph of a whole TREE.

    private void draw(Tree tree) {
        steps.clear();
        draw(tree, 0);
    }

    private void draw(Tree tree, int node) {
        int[] nodes = nodesAt(tree, node);
        while (steps.size() < 6 * (node + tree.size())) {
            steps.add(new BitSet());
        }
        for (Equation equation : rules.get(tree.rule).equations) {
            for (Spot spot : equation.named) {
                steps.get(6 * nodes[equation.target.place] + equation.target.attribute)
                    .set(6 * nodes[spot.place] + spot.attribute);
            }
        }
        for (int k = 0; k < tree.children.size(); k++) {
            draw(tree.children.get(k), nodes[k + 1]);
        }
    }

    /** The number of a NODE, and of its CHILDREN. */
    private static int[] nodesAt(Tree tree, int node) {
        int[] nodes = new int[tree.children.size() + 1];
        nodes[0] = node;
        int next = node + 1;
        for (int k = 0; k < tree.children.size(); k++) {
            nodes[k + 1] = next;
            next += tree.children.get(k).size();
        }
        return nodes;
    }

    private BitSet reached(int from) {
        BitSet met = new BitSet();
        List<Integer> open = new ArrayList<>(List.of(from));
        while (!open.isEmpty()) {
            BitSet one = steps.get(open.remove(open.size() - 1));
            for (int to = one.nextSetBit(0); to >= 0; to = one.nextSetBit(to + 1)) {
                if (!met.get(to)) {
                    met.set(to);
                    open.add(to);
                }
            }
        }
        return met;
    }

    private BitSet ofRound() {
        BitSet round = new BitSet();
        for (int i = 0; i < steps.size(); i++) {
            if (!steps.get(i).isEmpty() && reached(i).get(i)) {
                round.set(i);
            }
        }
        return round;
    }

    /** By DOC.md's own words: 2 to the power of .., all together. */
    private int graphOf(int symbol) {
        String kind = kinds.get(symbol);
        int synthesized = (int) kind.chars().filter(one -> one == 's').count();
        int graph = 0;
        int synthesizedRank = 0;
        for (int s = 0; s < kind.length(); s++) {
            if (kind.charAt(s) != 's') {
                continue;
            }
            BitSet hangs = reached(s);
            int inheritedRank = 0;
            for (int i = 0; i < kind.length(); i++) {
                if (kind.charAt(i) == 'i') {
                    graph += hangs.get(i) ? (int) Math.pow(2, inheritedRank * synthesized + synthesizedRank) : 0;
                    inheritedRank++;
                }
            }
            synthesizedRank++;
        }
        return graph;
    }

    // All TREES of few NODES.

    private void growTrees() {
        for (int s = 0; s < kinds.size(); s++) {
            trees.add(new ArrayList<>(List.of(new ArrayList<>())));
        }
        for (int size = 1, all = 0; size <= NODES && all < TREES; size++) {
            for (int s = 0; s < kinds.size(); s++) {
                trees.get(s).add(new ArrayList<>());
            }
            for (int r = 0; r < rules.size(); r++) {
                List<Tree> into = trees.get(rules.get(r).symbols[0]).get(size);
                all -= into.size();
                grow(r, new ArrayList<>(), size - 1, into);
                all += into.size();
            }
        }
    }

    private void grow(int rule, List<Tree> children, int left, List<Tree> into) {
        int[] symbols = rules.get(rule).symbols;
        if (children.size() == symbols.length - 1) {
            if (left == 0) {
                into.add(new Tree(rule, List.copyOf(children)));
            }
            return;
        }
        List<List<Tree>> bySize = trees.get(symbols[children.size() + 1]);
        for (int size = 1; size <= left && size < bySize.size(); size++) {
            for (int i = 0; i < bySize.get(size).size() && into.size() < TREES; i++) {
                children.add(bySize.get(size).get(i));
                grow(rule, children, left - size, into);
                children.remove(children.size() - 1);
            }
        }
    }

    // The texts.

    private String makeGrammar() {
        StringBuilder text = new StringBuilder();
        int symbols = 1 + random.nextInt(3);
        for (int s = 0; s < symbols; s++) {
            StringBuilder kind = new StringBuilder();
            text.append("sym ").append((char) ('A' + s));
            int attributes = s == 0 ? 1 : 2 + random.nextInt(3);
            for (int a = 0; a < attributes; a++) {
                boolean inherited = s > 0 && random.nextBoolean();
                kind.append(inherited ? 'i' : 's');
                text.append(inherited ? " inh " : " syn ").append((char) ('a' + a));
            }
            kinds.add(kind.toString());
            text.append("; ");
        }
        int count = symbols + random.nextInt(4);
        for (int r = 0; r < count; r++) {
            int[] places = new int[1 + random.nextInt(3)];
            for (int k = 0; k < places.length; k++) {
                places[k] = k == 0 && r < symbols ? r : random.nextInt(symbols);
            }
            rules.add(new Rule(places, new ArrayList<>()));
            addRule(text, r, places);
        }
        return text.toString();
    }

    private void addRule(StringBuilder text, int r, int[] symbols) {
        text.append("rule ").append((char) ('a' + r)).append(" =");
        for (int symbol : symbols) {
            text.append(' ').append((char) ('A' + symbol));
        }
        text.append(" : ");
        for (int k = 0; k < symbols.length; k++) {
            String kind = kinds.get(symbols[k]);
            for (int a = 0; a < kind.length(); a++) {
                if (kind.charAt(a) == (k == 0 ? 's' : 'i')) {
                    List<Spot> named = someSpots(symbols);
                    rules.get(r).equations.add(new Equation(new Spot(k, a), named));
                    text.append(k).append('.').append((char) ('a' + a)).append(" = 1");
                    for (Spot spot : named) {
                        text.append(" + ").append(spot.place).append('.').append((char) ('a' + spot.attribute));
                    }
                    text.append("; ");
                }
            }
        }
        text.append("end ");
    }

    private List<Spot> someSpots(int[] symbols) {
        List<Spot> some = new ArrayList<>();
        int times = random.nextInt(3);
        for (int i = 0; i < times; i++) {
            int k = random.nextInt(symbols.length);
            String kind = kinds.get(symbols[k]);
            int a = random.nextInt(kind.length());
            // Mostly what comes from outside of the RULE; other ways go round too soon.
            if (kind.charAt(a) == (k == 0 ? 'i' : 's') || random.nextInt(8) == 0) {
                some.add(new Spot(k, a));
            }
        }
        return some;
    }

    private String textOf(Tree tree) {
        StringBuilder text = new StringBuilder("(").append((char) ('a' + tree.rule));
        for (Tree child : tree.children) {
            text.append(textOf(child));
        }
        return text.append(")").toString();
    }

    private int ask(String text, boolean isTree) {
        calls += 3 + (text.length() + 19) / 20;
        return isTree ? Tape.tree(desk, text) : Tape.grammar(desk, text);
    }

    private int count(int answer) {
        calls++;
        due("calls of one object", calls <= CALLS, true);
        return answer;
    }

    private void due(String what, Object got, Object want) {
        if (!got.equals(want)) {
            wrong++;
            System.out.println("run " + run + ": " + what + ": " + got + ", due is " + want);
        }
    }
}
