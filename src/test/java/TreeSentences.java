/** The sentences of II. TREES on what a TREE consists of, and on its FAULTS. */
final class TreeSentences extends Checks {
    private static final String GRAMMAR = "sym S;sym X;rule t=S X:end rule n=S S S S:end rule c=S S:end rule l=S:end "
            + "rule x=X:end rule m=S X S:end";

    static void tell(Sentences all) {
        all.part("==== II. TREES of a grammar:");
        all.hold("texts likewise.", TreeSentences::textsLikewise);
        all.hold("TREE: ( NAME [NUMBER] {TREE} ).", TreeSentences::treeParts);
        all.hold("The NAME is a RULE's; it has a TREE for each CHILD, whose RULE's HEAD is that CHILD;",
                TreeSentences::treeForEachChild);
        all.hold("the HEAD of the whole one's is the first symbol.", TreeSentences::wholeOfTheFirst);
        all.hold("NODES are numbered as their ( are come to, from 0;", TreeSentences::numberedFrom0);
        all.hold("a NODE's OWN is its NUMBER, without one 0.", TreeSentences::ownIsItsNumber);
        all.hold("FAULTS: 1 as above (a TREE that lacks, or is one too many: at the TOKEN).", TreeSentences::one);
        all.hold("3 no such RULE, or its HEAD isn't what must stand there (at its NAME).", TreeSentences::three);
        all.hold("4 the 201st NODE, the 41st ( open around one another.", TreeSentences::four);
        all.hold("5 as above.", TreeSentences::five);
    }

    private static void treeFault(String text, int fault) {
        treeFault(GRAMMAR, text, fault);
    }

    private static AttributeDesk fineTree(String text, int nodes) {
        AttributeDesk desk = new AttributeDesk();
        due("grammar", Tape.grammar(desk, GRAMMAR), 6);
        due("tree " + text, Tape.tree(desk, text), nodes);
        due("FAULT of tree " + text, desk.fault(0), 0);
        due("place of tree " + text, desk.fault(1), NONE);
        due("NODES of " + text, desk.about(3), nodes);
        return desk;
    }

    private static void textsLikewise() {
        fineTree("(" + times(" ", 1499) + "l" + times("\n", 1498) + ")", 1);
        treeFault("(l)" + times(" ", 2996) + "|x", 1);
        treeFault("(l" + times(" ", 2998) + "|", 1);
        fineTree("( \n l 01 )", 1);
        fineTree("\n(\nm\n1(\nx\n)\n(\nl\n)\n)\n", 3);
        fineTree("(m 1(x)(l))", 3);
        fineTree("(c(l 2)  )", 2);
        treeFault("(|ll)", 3);
        treeFault("(l |l)", 1);
        treeFault("(c|,(l))", 1);
        for (char sign : "{}[]!,?\t\r_;:=.<+-*/%".toCharArray()) {
            treeFault("(l|" + sign + ")", 1);
            treeFault("(|" + sign + "l)", 1);
            treeFault("|" + sign + "(l)", 1);
            treeFault("(l)|" + sign, 1);
        }
        for (String key : new String[] {"sym", "inh", "syn", "rule", "end", "own", "if", "then", "else"}) {
            treeFault("(|" + key + ")", 1);
            treeFault("(l |" + key + ")", 1);
            treeFault("|" + key, 1);
            treeFault("(l)|" + key, 1);
        }
        // What stands on the tape behind its end is no part of it.
        AttributeDesk desk = new AttributeDesk();
        Tape.grammar(desk, GRAMMAR);
        Tape.put(desk, "(l 12345)");
        desk.end(7);
        due("cut", desk.tree(), NONE);
        due("FAULT at the end", desk.fault(0), 1);
        due("the length", desk.fault(1), 7);
        Tape.put(desk, "(c(l))(l)");
        desk.end(6);
        due("cut behind it", desk.tree(), 2);
    }

    private static void treeParts() {
        treeFault("|", 1);
        treeFault(" \n|", 1);
        treeFault("|l)", 1);
        treeFault("|)", 1);
        treeFault("|5", 1);
        treeFault("(|", 1);
        treeFault("(|)", 1);
        treeFault("(|5)", 1);
        treeFault("(|5 l)", 1);
        treeFault("(|(l))", 1);
        treeFault("(l|", 1);
        treeFault("(l 5|", 1);
        treeFault("(l 5 |6)", 1);
        treeFault("(l |l)", 1);
        treeFault("(l 5 |l)", 1);
        treeFault("(c(l) |5)", 1);
        treeFault("(c(l)|", 1);
        treeFault("(c(l)|c)", 1);
        treeFault("(l)|)", 1);
        treeFault("(l)|(l)", 1);
        treeFault("(l) |5", 1);
        treeFault("(l) |l", 1);
        fineTree("(l)", 1);
        fineTree("(l 5)", 1);
        fineTree("(c 5(l))", 2);
        fineTree("(n 1(l 2)(l 3)(c(l 4)))", 5);
    }

    private static void treeForEachChild() {
        AttributeDesk desk = fineTree("(n(l)(m(x)(l))(t(x)))", 7);
        int[] rules = {1, 3, 5, 4, 3, 0, 4};
        int[] symbols = {0, 0, 0, 1, 0, 0, 1};
        for (int n = 0; n < rules.length; n++) {
            due("RULE of " + n, desk.node(n, 0), rules[n]);
            due("symbol of " + n, desk.node(n, 4), symbols[n]);
        }
        treeFault("(m(|l)(x))", 3);
        treeFault("(m(x)(|x))", 3);
        treeFault("(m(x)|)", 1);
        treeFault("(m(x)(l)|(l))", 1);
        treeFault("(t(|t))", 3);
    }

    private static void wholeOfTheFirst() {
        fineTree("(l)", 1);
        fineTree("(t(x))", 2);
        treeFault("(|x)", 3);
        AttributeDesk desk = new AttributeDesk();
        Tape.grammar(desk, "sym X;sym S;rule l=S:end rule x=X S:end");
        due("of the second", Tape.tree(desk, "(l)"), NONE);
        due("FAULT", desk.fault(0), 3);
        due("of the first, though its RULE is the second", Tape.tree(desk, "(x(l))"), 2);
    }

    private static void numberedFrom0() {
        AttributeDesk desk = fineTree("(n 10(c 11(l 12))(l 13)(c 14(n 15(l 16)(l 17)(l 18))))", 9);
        int[] above = {NONE, 0, 1, 0, 0, 4, 5, 5, 5};
        int[] places = {0, 1, 1, 2, 3, 1, 1, 2, 3};
        for (int n = 0; n < 9; n++) {
            due("OWN of " + n, desk.node(n, 3), 10 + n);
            due("above " + n, desk.node(n, 1), above[n]);
            due("CHILD " + n, desk.node(n, 2), places[n]);
        }
        due("none below 0", desk.node(-1, 0), NONE);
        due("none behind", desk.node(9, 0), NONE);
    }

    private static void ownIsItsNumber() {
        AttributeDesk desk = fineTree("(n 2147483647(l)(l 0)(l 00012))", 4);
        due("the highest", desk.node(0, 3), MOST);
        due("without one", desk.node(1, 3), 0);
        due("0", desk.node(2, 3), 0);
        due("12", desk.node(3, 3), 12);
        // Not that of a TREE that stood there before.
        due("tree", Tape.tree(desk, "(n(l)(l)(l))"), 4);
        due("tree", Tape.tree(desk, "(n(l)(l)(l))"), 4);
        for (int n = 0; n < 4; n++) {
            due("without one", desk.node(n, 3), 0);
        }
        desk.own(2, 9);
        due("tree", Tape.tree(desk, "(n 1(l)(l)(l))"), 4);
        due("tree", Tape.tree(desk, "(n(l)(l)(l))"), 4);
        due("not what own() put", desk.node(2, 3), 0);
        due("not what stood there", desk.node(0, 3), 0);
    }

    private static void one() {
        treeFault("(c|)", 1);
        treeFault("(c 5|)", 1);
        treeFault("(t|)", 1);
        treeFault("(n|)", 1);
        treeFault("(n(l)|)", 1);
        treeFault("(n(l)(l)|)", 1);
        fineTree("(n(l)(l)(l))", 4);
        treeFault("(n(l)(l)(l)|(l))", 1);
        treeFault("(l|(l))", 1);
        treeFault("(l 5|(l))", 1);
        treeFault("(c(l)|(l))", 1);
        treeFault("(c(l|(l)))", 1);
        treeFault("(c(l))|(l)", 1);
        treeFault("(n(l)(c|)(l))", 1);
        treeFault("(|abcdefghi)", 1);
        treeFault("(c(|abcdefghi))", 1);
    }

    private static void three() {
        treeFault("(|z)", 3);
        treeFault("(|L)", 3);
        treeFault("(|S)", 3);
        treeFault("(|X)", 3);
        treeFault("(c(|z))", 3);
        treeFault("( \n |z)", 3);
        treeFault("(|x)", 3);
        treeFault("(c(|x))", 3);
        treeFault("(n(l)(|x)", 3);
        treeFault("(n(l)(l)(|x)", 3);
        treeFault("(t(|l))", 3);
        treeFault("(m(x)(|x)", 3);
        treeFault("(|z 2147483648)", 3);
        // A RULE of an earlier grammar alone.
        AttributeDesk desk = new AttributeDesk();
        Tape.grammar(desk, "sym S;rule a=S:end rule b=S:end");
        due("b", Tape.tree(desk, "(b)"), 1);
        Tape.grammar(desk, "sym S;rule a=S:end");
        due("no b", Tape.tree(desk, "(b)"), NONE);
        due("FAULT", desk.fault(0), 3);
        due("its NAME", desk.fault(1), 1);
    }

    private static void four() {
        // 1 + 100 + 97 + 1 NODES.
        String most = "(n" + nest(33) + nest(32);
        fineTree(most + "(l))", 199);
        AttributeDesk desk = fineTree(most + "(c(l)))", 200);
        due("the 200th", desk.node(199, 1), 198);
        due("no 201st", desk.node(200, 1), NONE);
        treeFault(most + "(c(c|(l))))", 4);
        treeFault(most + "(c(c|(", 4);
        treeFault(most + "(c(c|)", 1);
        treeFault(most + "(c(l)|(l)))", 1);
        treeFault(most + "(c(l))|(l))", 1);
        treeFault(most + "(c(l)))|(l)", 1);
        // 40 open around one another; those that are closed count no longer.
        fineTree(times("(c", 38) + "(l" + times(")", 39), 39);
        desk = fineTree(times("(c", 39) + "(l" + times(")", 40), 40);
        due("the 40th", desk.node(39, 1), 38);
        treeFault(times("(c", 40) + "|(l", 4);
        treeFault(times("(c", 40) + "|(c", 4);
        treeFault(times("(c", 40) + "|)", 1);
        treeFault(times("(c", 39) + "(l|(l", 1);
        treeFault(times("(c", 39) + "(|(l", 1);
        fineTree(times("(n(l)(l)", 39) + "(l" + times(")", 40), 118);
        treeFault(times("(n(l)(l)", 39) + "(c|(l", 4);
        treeFault("(n" + times("(c", 38) + "(l" + times(")", 39) + times("(c", 39) + "|(l", 4);
        // A TREE as large as that can be read again and again.
        desk = new AttributeDesk();
        Tape.grammar(desk, GRAMMAR);
        for (int i = 0; i < 3; i++) {
            due("200 NODES", Tape.tree(desk, most + "(c(l)))"), 200);
            due("201 NODES", Tape.tree(desk, most + "(c(c(l))))"), NONE);
            due("40 open", Tape.tree(desk, times("(c", 39) + "(l" + times(")", 40)), 40);
            due("41 open", Tape.tree(desk, times("(c", 40) + "(l" + times(")", 41)), NONE);
            due("FAULT", desk.fault(0), 4);
        }
    }

    private static void five() {
        fineTree("(l 2147483647)", 1);
        treeFault("(l |2147483648)", 5);
        treeFault("(c |2147483648(l))", 5);
        treeFault("(c(l |4294967296))", 5);
        treeFault("(l |18446744073709551616", 5);
        treeFault("(l 5 |2147483648)", 1);
        treeFault("(|2147483648)", 1);
        treeFault("|2147483648", 1);
        treeFault("(l)|2147483648", 1);
        treeFault("(c(l)|2147483648)", 1);
    }
}
