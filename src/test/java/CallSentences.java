/** The sentences of the promises. */
final class CallSentences extends Checks {
    private static final String SUM = "sym S syn v; sym L inh p syn v; rule top = S L : 0.v = 1.v; 1.p = 0; end "
            + "rule one = L : 0.v = 0.p + own; end rule two = L L L : 0.v = 1.v + 2.v; 1.p = 0.p + 1; 2.p = 0.p; end";
    private static final String SUM_TREE = "(top(two(one 5)(one 7)))";
    /** A grammar that is TOO LARGE: X has 13 GRAPHS and stands three times in one RULE. */
    private static final String LARGE = large();
    private static final int[] FAR = {LEAST, LEAST + 1, -1000000, -3001, -201, -100, -31, -13, -7, -2, MOST - 1, MOST, 1 << 30,
        1 << 16, 1000000, 3001};

    static void tell(Sentences all) {
        all.part("## Promise 1: A new object");
        all.hold("`AttributeDesk()`: No grammar, no TREE, an empty tape.", CallSentences::newObject);
        all.part("## Promise 2: feed");
        all.hold("`int feed(int a, int b, int c, int d, int e)`: Twenty bytes come behind the tape, the highest of a first: "
                + "how many it has.", CallSentences::feedTwenty);
        all.hold("NONE, and none come, if there would be more than 3,000.", CallSentences::feedNoMore);
        all.part("## Promise 3: end");
        all.hold("`int end(int n)`: The tape has its first n bytes alone: n.", CallSentences::endFirst);
        all.hold("NONE, and nothing is done, if it has not so many, or n is below 0.", CallSentences::endNone);
        all.part("## Promise 4: grammar");
        all.hold("`int grammar()`: The tape (empty then) becomes the grammar; there is no TREE: how many RULES.",
                CallSentences::grammarRead);
        all.hold("NONE: it has a FAULT; grammar and TREE stay.", CallSentences::grammarFault);
        all.part("## Promise 5: tree");
        all.hold("`int tree()`: The tape (empty then) becomes the TREE: how many NODES.", CallSentences::treeRead);
        all.hold("NONE: it has a FAULT, the TREE stays;", CallSentences::treeFault);
        all.hold("-2, and nothing is done: there is no grammar.", CallSentences::treeWithoutGrammar);
        all.part("## Promise 6: fault");
        all.hold("`int fault(int what)`: Of the latest grammar() or tree() that was not -2:", CallSentences::faultOfLatest);
        all.hold("0 its FAULT (0 without), 1 its place (NONE without).", CallSentences::faultAndPlace);
        all.hold("NONE for others, and ahead of any.", CallSentences::faultOthers);
        all.part("## Promise 7: symbol");
        all.hold("`int symbol(int s, int what)`: Of a symbol, by its number: 0 attributes, 1 inherited ones,",
                CallSentences::symbolCounts);
        all.hold("2 GRAPHS (-2 TOO LARGE),", CallSentences::symbolGraphs);
        all.hold("3 its plain graph,", CallSentences::symbolPlain);
        all.hold("100 + a: whether attribute a is inherited (1, 0).", CallSentences::symbolInherited);
        all.hold("NONE for others.", CallSentences::symbolOthers);
        all.part("## Promise 8: graph");
        all.hold("`int graph(int s, int i)`: GRAPH i of a symbol, by rising numbers.", CallSentences::graphRising);
        all.hold("NONE: none such, and if it is TOO LARGE.", CallSentences::graphNone);
        all.part("## Promise 9: rule");
        all.hold("`int rule(int r, int what)`: Of a RULE: 0 its HEAD, 1 how many CHILDREN, 2 EQUATIONS,",
                CallSentences::ruleCounts);
        all.hold("3 whether it can come in a TREE of the first symbol (1, 0),", CallSentences::ruleComes);
        all.hold("4 whether it has a way round by the plain graphs,", CallSentences::rulePlain);
        all.hold("5 by the GRAPHS (-2 TOO LARGE; as far as each CHILD has one),", CallSentences::ruleExact);
        all.hold("10 + k: CHILD k's symbol (k from 1).", CallSentences::ruleChild);
        all.hold("NONE for others.", CallSentences::ruleOthers);
        all.part("## Promise 10: test");
        all.hold("`int test(int what)`: The EXACT test (what 0): 1 no TREE goes round, 0 some does, -2 TOO LARGE;",
                CallSentences::testExact);
        all.hold("the PLAIN one (1): 1, 0.", CallSentences::testPlain);
        all.hold("NONE for others, and without a grammar.", CallSentences::testOthers);
        all.part("## Promise 11: node");
        all.hold("`int node(int n, int what)`: Of a NODE: 0 its RULE, 1 the NODE above (NONE), 2 which CHILD of that it is (0 "
                + "of the root), 3 OWN, 4 its symbol.", CallSentences::nodeAnswers);
        all.hold("NONE for others.", CallSentences::nodeOthers);
        all.part("## Promise 12: own");
        all.hold("`boolean own(int n, int v)`: A NODE's OWN becomes a number (any): true.", CallSentences::ownBecomes);
        all.hold("False: there is none such.", CallSentences::ownFalse);
        all.part("## Promise 13: demand");
        all.hold("`int demand(int n, int a)`: An attribute (by its number among its symbol's) of a NODE is DEMANDED: 0 it has a "
                + "number, 1 BAD, 2 GOES ROUND.", CallSentences::demandAnswers);
        all.hold("NONE: there is none such.", CallSentences::demandNone);
        all.part("## Promise 14: value");
        all.hold("`int value(int n, int a, int what)`: Of an attribute of a NODE, not demanding it:",
                CallSentences::valueDemandsNot);
        all.hold("what 0: NONE it isn't worked out, 0 a number, 1 BAD;", CallSentences::valueKind);
        all.hold("1: the number (0 else).", CallSentences::valueNumber);
        all.hold("NONE for others.", CallSentences::valueOthers);
        all.part("## Promise 15: order");
        all.hold("`int order(int i)`: The i-th attribute that was worked out since the TREE was read, or an OWN changed:",
                CallSentences::orderSince);
        all.hold("6 times its NODE and its number.", CallSentences::orderNumbers);
        all.hold("NONE if there is none such.", CallSentences::orderNone);
        all.part("## Promise 16: about");
        all.hold("`int about(int what)`: 0 bytes of the tape, 1 symbols, 2 RULES, 3 NODES, 4 attributes that are worked out.",
                CallSentences::aboutAnswers);
        all.hold("NONE for others.", CallSentences::aboutOthers);
    }

    private static String large() {
        StringBuilder text = new StringBuilder("sym S syn v;sym X inh a inh b syn s syn t;rule r=S X X X:0.v=1;");
        for (int k = 1; k <= 3; k++) {
            text.append(k).append(".a=1;").append(k).append(".b=1;");
        }
        text.append("end rule o=S:0.v=own;end ");
        for (int g = 0; g < 13; g++) {
            text.append("rule ").append(letter(g)).append("x=X:0.s=1").append((g & 1) != 0 ? "+0.a" : "");
            text.append((g & 2) != 0 ? "+0.b" : "").append(";0.t=1").append((g & 4) != 0 ? "+0.a" : "");
            text.append((g & 8) != 0 ? "+0.b" : "").append(";end ");
        }
        return text.toString();
    }

    /** 12 symbols of six attributes, 30 RULES, all pairs of attributes in the GRAPHS, and ways round in some RULES. */
    private static String full() {
        StringBuilder text = new StringBuilder("sym a syn a syn b syn c syn d syn e syn f;");
        StringBuilder rules = new StringBuilder("rule aa=a l l l:");
        for (int k = 1; k <= 3; k++) {
            rules.append(k).append(".a=1;").append(k).append(".b=").append(k).append(".d;").append(k).append(".c=1;");
        }
        rules.append(six(0)).append("end ");
        for (int s = 1; s < 12; s++) {
            text.append("sym ").append(letter(s)).append(" inh a inh b inh c syn d syn e syn f;");
            rules.append("rule b").append(letter(s)).append('=').append(letter(s));
            rules.append(":0.d=0.a+0.b+0.c;0.e=0.a+0.b+0.c;0.f=0.a+0.b+0.c+0.f;end ");
        }
        for (int r = 0; r < 18; r++) {
            rules.append("rule c").append(letter(r)).append("=a:").append(six(0)).append("end ");
        }
        return text.toString() + rules;
    }

    /** 200 NODES of six attributes. */
    private static AttributeDesk deskOfFullTree() {
        StringBuilder grammar = new StringBuilder("sym S syn a syn b syn c syn d syn e syn f;");
        for (String rule : new String[] {"n=S S S S", "c=S S", "l=S"}) {
            grammar.append("rule ").append(rule).append(':').append(six(0)).append("end ");
        }
        return deskOf(grammar.toString(), "(n" + nest(33) + nest(32) + "(c(l)))");
    }

    private static String six(int place) {
        return "0.a=1;0.b=1;0.c=1;0.d=1;0.e=1;0.f=1;".replace("0.", place + ".");
    }

    private static void about(AttributeDesk desk, int... due) {
        for (int what = 0; what < due.length; what++) {
            due("about " + what, desk.about(what), due[what]);
        }
    }

    // Promise 1

    private static void newObject() {
        AttributeDesk desk = new AttributeDesk();
        about(desk, 0, 0, 0, 0, 0);
        for (int what = -1; what <= 12; what++) {
            due("fault", desk.fault(what), NONE);
            due("symbol", desk.symbol(0, what), NONE);
            due("rule", desk.rule(0, what), NONE);
            due("test", desk.test(what), NONE);
            due("node", desk.node(0, what), NONE);
            due("value", desk.value(0, 0, what), NONE);
        }
        due("symbol", desk.symbol(0, 100), NONE);
        due("graph", desk.graph(0, 0), NONE);
        due("own", desk.own(0, 1), false);
        due("demand", desk.demand(0, 0), NONE);
        due("order", desk.order(0), NONE);
        due("end 1", desk.end(1), NONE);
        due("end 0", desk.end(0), 0);
        due("tree", desk.tree(), -2);
        due("grammar of an empty tape", desk.grammar(), NONE);
        due("still none", desk.tree(), -2);
        about(desk, 0, 0, 0, 0, 0);
        // Another object's are none of its own.
        AttributeDesk other = deskOf(SUM, SUM_TREE);
        desk = new AttributeDesk();
        other.feed(1, 2, 3, 4, 5);
        other.demand(0, 0);
        about(desk, 0, 0, 0, 0, 0);
        about(other, 20, 2, 3, 4, 7);
    }

    // Promise 2

    private static void feedTwenty() {
        AttributeDesk desk = new AttributeDesk();
        int[] words = {0x73796d20, 0x533b7275, 0x6c652061, 0x3d533a65, 0x6e640a20};
        due("sym S;rule a=S:end", desk.feed(words[0], words[1], words[2], words[3], words[4]), 20);
        due("the highest of a first", desk.grammar(), 1);
        due("from an empty tape again", desk.feed(words[0], words[1], words[2], words[3], words[4]), 20);
        due("behind it", desk.feed(0x20202020, 0x20202020, 0x20202020, 0x20202020, 0x20200073), 40);
        due("grammar", desk.grammar(), NONE);
        due("FAULT", desk.fault(0), 1);
        due("at the 39th byte", desk.fault(1), 38);
        // Each of the twenty has its place: a byte that is no TOKEN's among blanks.
        for (int at = 0; at < 20; at++) {
            StringBuilder text = new StringBuilder(times(" ", 20));
            text.setCharAt(at, (char) (128 + at));
            desk.feed(Tape.word(text.toString(), 0), Tape.word(text.toString(), 4), Tape.word(text.toString(), 8),
                    Tape.word(text.toString(), 12), Tape.word(text.toString(), 16));
            due("grammar", desk.grammar(), NONE);
            due("the byte's place", desk.fault(1), at);
        }
        // Any numbers at all, behind what an end() left.
        due("any", desk.feed(LEAST, MOST, -1, 0, 1), 20);
        due("end", desk.end(13), 13);
        due("behind 13", desk.feed(-1, -1, -1, -1, -1), 33);
    }

    private static void feedNoMore() {
        AttributeDesk desk = new AttributeDesk();
        for (int i = 1; i <= 150; i++) {
            due("feed " + i, desk.feed(0x20202020, 0x20202020, 0x20202020, 0x20202020, 0x20202020), 20 * i);
        }
        for (int n : new int[] {3000, 2999, 2990, 2982, 2981}) {
            due("end", desk.end(n), n);
            due("more than 3,000", desk.feed(-1, -1, -1, -1, -1), NONE);
            due("none come", desk.about(0), n);
        }
        due("end", desk.end(2980), 2980);
        due("just 3,000", desk.feed(0x20202020, 0x20202020, 0x20202020, 0x20202020, 0x20202078), 3000);
        due("more than 3,000", desk.feed(-1, -1, -1, -1, -1), NONE);
        due("grammar", desk.grammar(), NONE);
        due("the last byte", desk.fault(1), 2999);
        due("empty again", desk.feed(0, 0, 0, 0, 0), 20);
    }

    // Promise 3

    private static void endFirst() {
        String text = "sym S;rule a=S:endxx";
        AttributeDesk desk = new AttributeDesk();
        Tape.put(desk, text);
        due("all", desk.end(20), 20);
        due("one less", desk.end(19), 19);
        due("the first", desk.end(18), 18);
        due("bytes", desk.about(0), 18);
        due("of these alone", desk.grammar(), 1);
        Tape.put(desk, text);
        due("end", desk.end(15), 15);
        due("grammar", desk.grammar(), NONE);
        due("the length", desk.fault(1), 15);
        Tape.put(desk, text);
        due("none", desk.end(0), 0);
        due("none", desk.end(0), 0);
        due("bytes", desk.about(0), 0);
        due("grammar", desk.grammar(), NONE);
        due("the length", desk.fault(1), 0);
    }

    private static void endNone() {
        AttributeDesk desk = new AttributeDesk();
        due("of an empty one", desk.end(1), NONE);
        due("of an empty one", desk.end(-1), NONE);
        desk.feed(0x73796d20, 0x533b7275, 0x6c652061, 0x3d533a65, 0x6e640a20);
        due("not so many", desk.end(21), NONE);
        due("below 0", desk.end(-1), NONE);
        for (int n : FAR) {
            due("far", desk.end(n), NONE);
        }
        due("nothing is done", desk.about(0), 20);
        due("cut", desk.end(19), 19);
        due("what was cut is gone", desk.end(20), NONE);
        due("nothing is done", desk.about(0), 19);
        due("grammar", desk.grammar(), 1);
        due("empty then", desk.end(1), NONE);
    }

    // Promise 4

    private static void grammarRead() {
        AttributeDesk desk = new AttributeDesk();
        due("how many RULES", Tape.grammar(desk, SUM), 3);
        about(desk, 0, 2, 3, 0, 0);
        Tape.tree(desk, SUM_TREE);
        desk.demand(0, 0);
        about(desk, 0, 2, 3, 4, 7);
        due("how many RULES", Tape.grammar(desk, "sym A syn v;rule a=A:0.v=3;end"), 1);
        about(desk, 0, 1, 1, 0, 0);
        due("no TREE", desk.node(0, 0), NONE);
        due("no attribute", desk.value(0, 0, 0), NONE);
        due("none demanded", desk.demand(0, 0), NONE);
        due("no OWN", desk.own(0, 1), false);
        due("none worked out", desk.order(0), NONE);
        due("no second symbol", desk.symbol(1, 0), NONE);
        due("no second RULE", desk.rule(1, 0), NONE);
        // The same once more: there is no TREE then, either.
        Tape.tree(desk, "(a)");
        due("how many RULES", Tape.grammar(desk, "sym A syn v;rule a=A:0.v=3;end"), 1);
        about(desk, 0, 1, 1, 0, 0);
        Tape.put(desk, SUM + "   ");
        due("how many RULES", desk.grammar(), 3);
        due("empty then", desk.grammar(), NONE);
        due("FAULT", desk.fault(0), 1);
        due("of an empty text", desk.fault(1), 0);
        // Nothing of an earlier grammar is left, be it one or two ahead.
        String small = "sym a syn a;sym l inh a syn d;sym z syn d;rule aa=a l:1.a=1;0.a=1;end rule bl=l:0.d=1;end "
                + "rule q=z z:0.d=1.d;end rule p=l z:0.d=1;end";
        desk = new AttributeDesk();
        due("full", Tape.grammar(desk, full()), 30);
        due("full again", Tape.grammar(desk, full()), 30);
        tests(desk, 0, 0);
        due("all 512", desk.graph(11, 0), 511);
        due("all 512", desk.symbol(11, 3), 511);
        due("the most EQUATIONS", desk.rule(0, 2), 15);
        int[][] rules = {{0, 1, 2, 1, 0, 0}, {1, 0, 1, 1, 0, 0}, {2, 1, 1, 0, 0, 0}, {1, 1, 1, 0, 0, 0}};
        int[][] symbols = {{1, 0, 1, 0}, {2, 1, 1, 0}, {1, 0, 0, 0}};
        for (int i = 0; i < 3; i++) {
            due("small", Tape.grammar(desk, small), 4);
            tests(desk, 1, 1);
            for (int what = 0; what < 6; what++) {
                for (int r = 0; r < 4; r++) {
                    due("rule " + r + " " + what, desk.rule(r, what), rules[r][what]);
                }
                for (int s = 0; s < 3 && what < 4; s++) {
                    due("symbol " + s + " " + what, desk.symbol(s, what), symbols[s][what]);
                }
            }
            due("GRAPH", desk.graph(1, 0), 0);
            due("no GRAPH", desk.graph(1, 1), NONE);
            due("no GRAPH", desk.graph(2, 0), NONE);
            due("no second attribute", desk.symbol(0, 101), NONE);
        }
        String[] signs = {"-", "-", "", "", "1+", "1+", ""};
        int[] numbers = {-4, -4, 4, 4, 5, 5, 4};
        for (int i = 0; i < signs.length; i++) {
            due("another E", Tape.grammar(desk, "sym S syn v;rule a=S:0.v=" + signs[i] + "own;end"), 1);
            due("TREE", Tape.tree(desk, "(a 4)"), 1);
            due("demand", desk.demand(0, 0), 0);
            due("by this E alone", desk.value(0, 0, 1), numbers[i]);
        }
    }

    private static void grammarFault() {
        AttributeDesk desk = deskOf(SUM, SUM_TREE);
        desk.demand(0, 0);
        desk.own(3, 8);
        desk.demand(3, 0);
        String[] texts = {"", "sym", "sym S syn v; sym L syn w syn v; rule a = S : 0.v = 1; end rule a",
            "sym S inh v; rule a = S : end"};
        for (String text : texts) {
            due("FAULT", Tape.grammar(desk, text), NONE);
            about(desk, 0, 2, 3, 4, 2);
            due("symbol stays", desk.symbol(1, 1), 1);
            due("attribute stays", desk.symbol(1, 100), 1);
            due("GRAPH stays", desk.graph(1, 0), 1);
            due("plain graph stays", desk.symbol(1, 3), 1);
            due("RULE stays", desk.rule(2, 1), 2);
            due("test stays", desk.test(0), 1);
            due("NODE stays", desk.node(3, 3), 8);
            due("value stays", desk.value(3, 0, 0), 0);
            due("order stays", desk.order(1), 18);
        }
        due("demand", desk.demand(0, 0), 0);
        due("by the EQUATIONS that stay", desk.value(0, 0, 1), 14);
        due("TREE by the RULES that stay", Tape.tree(desk, "(top(one 3))"), 2);
        desk = new AttributeDesk();
        due("FAULT of the first", Tape.grammar(desk, "sym S; rule a = S :"), NONE);
        about(desk, 0, 0, 0, 0, 0);
        due("still none", desk.tree(), -2);
        due("no test", desk.test(0), NONE);
    }

    // Promise 5

    private static void treeRead() {
        AttributeDesk desk = deskOf(SUM);
        due("how many NODES", Tape.tree(desk, SUM_TREE), 4);
        about(desk, 0, 2, 3, 4, 0);
        desk.demand(0, 0);
        due("how many NODES", Tape.tree(desk, "(top(one 9))  "), 2);
        about(desk, 0, 2, 3, 2, 0);
        due("no third", desk.node(2, 0), NONE);
        due("no value", desk.value(0, 0, 0), NONE);
        due("demand", desk.demand(0, 0), 0);
        due("value", desk.value(0, 0, 1), 9);
        due("empty then", desk.tree(), NONE);
        due("FAULT", desk.fault(0), 1);
        due("of an empty text", desk.fault(1), 0);
    }

    private static void treeFault() {
        AttributeDesk desk = deskOf(SUM, SUM_TREE);
        desk.own(2, 50);
        desk.demand(0, 0);
        String[] texts = {"", "(", "(top(two(one 1)(one 2)", "(top(one 1))(", "(top(two 9(one 8)(one 2147483648)))", "(one)"};
        for (String text : texts) {
            due("FAULT", Tape.tree(desk, text), NONE);
            about(desk, 0, 2, 3, 4, 7);
            int[] rules = {0, 2, 1, 1};
            int[] owns = {0, 0, 50, 7};
            for (int n = 0; n < 4; n++) {
                due("RULE stays", desk.node(n, 0), rules[n]);
                due("OWN stays", desk.node(n, 3), owns[n]);
            }
            due("value stays", desk.value(0, 0, 1), 58);
            due("order stays", desk.order(6), 0);
        }
        due("own", desk.own(3, 8), true);
        due("demand", desk.demand(0, 0), 0);
        due("by the TREE that stays", desk.value(0, 0, 1), 59);
    }

    private static void treeWithoutGrammar() {
        AttributeDesk desk = new AttributeDesk();
        due("empty", desk.tree(), -2);
        Tape.put(desk, "sym S;rule a=S:end");
        due("no grammar", desk.tree(), -2);
        due("nothing is done", desk.about(0), 18);
        due("no FAULT is told", desk.fault(0), NONE);
        due("no place is told", desk.fault(1), NONE);
        due("again", desk.tree(), -2);
        due("the tape is what it was", desk.grammar(), 1);
        desk = new AttributeDesk();
        due("FAULT", Tape.grammar(desk, "sym S;rule a=T:end"), NONE);
        Tape.put(desk, "(a)");
        due("no grammar still", desk.tree(), -2);
        due("nothing is done", desk.about(0), 3);
        due("the FAULT is what it was", desk.fault(0), 3);
        due("the place is what it was", desk.fault(1), 13);
    }

    // Promise 6

    private static void faultOfLatest() {
        AttributeDesk desk = new AttributeDesk();
        Tape.grammar(desk, "sym S;rule a=T:end");
        due("of grammar()", desk.fault(0), 3);
        due("its place", desk.fault(1), 13);
        Tape.tree(desk, "(a)");
        due("not of a -2", desk.fault(0), 3);
        due("nor its place", desk.fault(1), 13);
        Tape.grammar(desk, "sym S;rule a=S:end");
        due("of grammar()", desk.fault(0), 0);
        due("no place", desk.fault(1), NONE);
        Tape.tree(desk, "(a 2147483648)");
        due("of tree()", desk.fault(0), 5);
        due("its place", desk.fault(1), 3);
        // No other call is one of these.
        desk.feed(1, 2, 3, 4, 5);
        desk.end(7);
        desk.end(8);
        desk.own(0, 1);
        desk.demand(0, 0);
        desk.test(0);
        due("still", desk.fault(0), 5);
        due("still", desk.fault(1), 3);
        Tape.tree(desk, "(a)");
        due("of tree()", desk.fault(0), 0);
        due("no place", desk.fault(1), NONE);
        Tape.grammar(desk, "sym S inh i;rule a=S:end");
        due("of grammar()", desk.fault(0), 9);
        due("its place", desk.fault(1), 24);
        Tape.tree(desk, "(a)");
        due("of tree()", desk.fault(0), 0);
    }

    private static void faultAndPlace() {
        String head = "sym S syn v;sym X inh i;";
        String[] texts = {head + "rule a=S:0.v=1;end", "", "sym S;sym S;", head + "rule a=T:", head + "rule a=S X X X X:",
            head + "rule a=S:0.v=3000000000;", head + "rule a=X:0.i=1;", head + "rule a=S:0.v=1;0.v=2;", head + "rule a=S:end",
            "sym S inh i;rule a=S:end "};
        int[] places = {NONE, 0, 10, 31, 39, 37, 35, 41, 33, 25};
        AttributeDesk desk = new AttributeDesk();
        for (int fault = 0; fault < texts.length; fault++) {
            due("grammar", Tape.grammar(desk, texts[fault]), fault == 0 ? 1 : NONE);
            due("FAULT " + fault, desk.fault(0), fault);
            due("place of " + fault, desk.fault(1), places[fault]);
            due("FAULT again", desk.fault(0), fault);
        }
    }

    private static void faultOthers() {
        AttributeDesk desk = new AttributeDesk();
        for (int what = -5; what < 10; what++) {
            due("ahead of any", desk.fault(what), NONE);
        }
        Tape.grammar(desk, "");
        for (int round = 0; round < 2; round++) {
            for (int what : FAR) {
                due("others", desk.fault(what), NONE);
            }
            due("others", desk.fault(-1), NONE);
            due("others", desk.fault(2), NONE);
            Tape.grammar(desk, SUM);
        }
    }

    // Promise 7

    private static void symbolCounts() {
        AttributeDesk desk = deskOf("sym A;sym B syn a;sym C inh a inh b inh c inh d inh e inh f;"
                + "sym D inh a syn b syn c inh d syn e inh f;sym E syn a syn b syn c syn d syn e syn f;rule a=A:end");
        int[][] counts = {{0, 0}, {1, 0}, {6, 6}, {6, 3}, {6, 0}};
        for (int s = 0; s < counts.length; s++) {
            due("attributes of " + s, desk.symbol(s, 0), counts[s][0]);
            due("inherited ones of " + s, desk.symbol(s, 1), counts[s][1]);
        }
    }

    private static void symbolGraphs() {
        AttributeDesk desk = deskOf("sym S;sym X inh a inh b syn s;sym Y;rule a=S:end rule x=X:0.s=0.a;end rule y=X:0.s=0.b;end "
                + "rule z=X:0.s=1;end");
        int[] counts = {1, 3, 0};
        for (int s = 0; s < 3; s++) {
            due("GRAPHS of " + s, desk.symbol(s, 2), counts[s]);
        }
        desk = deskOf(LARGE);
        due("TOO LARGE", desk.symbol(0, 2), -2);
        due("TOO LARGE", desk.symbol(1, 2), -2);
        due("one RULE less isn't", deskOf(LARGE.substring(0, LARGE.lastIndexOf("rule"))).symbol(1, 2), 12);
    }

    private static void symbolPlain() {
        AttributeDesk desk = deskOf("sym S;sym X inh a inh b syn s;sym Y;rule a=S:end rule x=X:0.s=0.a;end rule y=X:0.s=0.b;end "
                + "rule z=X:0.s=1;end");
        int[] plain = {0, 3, 0};
        for (int s = 0; s < 3; s++) {
            due("plain graph of " + s, desk.symbol(s, 3), plain[s]);
        }
        due("TOO LARGE for the other test alone", deskOf(LARGE).symbol(1, 3), 15);
    }

    private static void symbolInherited() {
        AttributeDesk desk = deskOf("sym A syn v;sym D inh a syn b syn c inh d syn e inh f;sym E;rule a=A:0.v=1;end");
        int[] inherited = {1, 0, 0, 1, 0, 1};
        for (int a = 0; a < 6; a++) {
            due("attribute " + a, desk.symbol(1, 100 + a), inherited[a]);
        }
        due("no seventh", desk.symbol(1, 106), NONE);
        due("none below", desk.symbol(1, 99), NONE);
        due("the only one", desk.symbol(0, 100), 0);
        due("no second", desk.symbol(0, 101), NONE);
        due("of none", desk.symbol(2, 100), NONE);
    }

    private static void symbolOthers() {
        AttributeDesk desk = deskOf(SUM);
        for (int what : new int[] {-1, 4, 5, 10, 98, 99, 102, 103, 105, 106, 200}) {
            due("what " + what, desk.symbol(1, what), NONE);
        }
        for (int far : FAR) {
            due("what " + far, desk.symbol(1, far), NONE);
            for (int what : new int[] {0, 1, 2, 3, 100}) {
                due("symbol " + far, desk.symbol(far, what), NONE);
            }
        }
        for (int s : new int[] {-1, 2, 3, 11, 12, 13}) {
            for (int what : new int[] {0, 1, 2, 3, 100}) {
                due("symbol " + s, desk.symbol(s, what), NONE);
            }
        }
        Tape.tree(desk, SUM_TREE);
        due("symbol 2", desk.symbol(2, 0), NONE);
        desk = deskOf(full());
        due("the 12th", desk.symbol(11, 105), 0);
        for (int what : new int[] {0, 1, 2, 3, 100}) {
            due("no 13th", desk.symbol(12, what), NONE);
        }
        due("no seventh attribute", desk.symbol(11, 106), NONE);
    }

    // Promise 8

    private static void graphRising() {
        // Found from the highest to the lowest.
        AttributeDesk desk = deskOf("sym S;sym X inh a inh b syn s;rule x=X:0.s=0.a+0.b;end rule y=X:0.s=0.b;end "
                + "rule z=X:0.s=0.a;end rule w=X:0.s=1;end rule a=S X X:1.a=1;1.b=1;2.a=1;2.b=1;end");
        for (int i = 0; i < 4; i++) {
            due("GRAPH " + i, desk.graph(1, i), i);
        }
        due("the only one", desk.graph(0, 0), 0);
    }

    private static void graphNone() {
        AttributeDesk desk = deskOf("sym S;sym X inh a inh b syn s;sym Y;rule x=X:0.s=0.a+0.b;end rule y=X:0.s=0.b;end "
                + "rule a=S:end");
        due("the last", desk.graph(1, 1), 3);
        for (int i : new int[] {-1, 2, 3, 511, 512, 513}) {
            due("none such", desk.graph(1, i), NONE);
        }
        due("of a symbol that has none", desk.graph(2, 0), NONE);
        for (int far : FAR) {
            due("none such", desk.graph(1, far), NONE);
            due("no symbol", desk.graph(far, 0), NONE);
        }
        for (int s : new int[] {-1, 3, 4, 11, 12}) {
            due("no symbol", desk.graph(s, 0), NONE);
        }
        desk = deskOf(full());
        due("of the 12th", desk.graph(11, 0), 511);
        due("of no 13th", desk.graph(12, 0), NONE);
        desk = deskOf(LARGE);
        for (int s = 0; s < 2; s++) {
            due("TOO LARGE", desk.graph(s, 0), NONE);
            due("TOO LARGE", desk.graph(s, 1), NONE);
        }
    }

    // Promise 9

    private static void ruleCounts() {
        AttributeDesk desk = deskOf(SUM + " rule all=L S L L:0.v=1;2.p=0;3.p=0;end rule none=S S:0.v=1.v;end");
        due("RULES", desk.about(2), 5);
        int[][] counts = {{0, 1, 2}, {1, 0, 1}, {1, 2, 3}, {1, 3, 3}, {0, 1, 1}};
        for (int r = 0; r < counts.length; r++) {
            for (int what = 0; what < 3; what++) {
                due("rule " + r + " " + what, desk.rule(r, what), counts[r][what]);
            }
        }
        desk = deskOf("sym S;rule a=S:end");
        due("no EQUATION", desk.rule(0, 2), 0);
        // Six of the HEAD and six of each CHILD are the most.
        desk = deskOf("sym S syn a syn b syn c syn d syn e syn f;sym X inh a inh b inh c inh d inh e inh f;rule r=S X X X:"
                + six(0) + six(1) + six(2) + six(3) + "end");
        due("the most EQUATIONS", desk.rule(0, 2), 24);
    }

    private static void ruleComes() {
        AttributeDesk desk = deskOf("sym S;sym X;sym Y;sym Z;rule s=S:end rule t=S X:end rule x=X:end rule y=Y X:end "
                + "rule z=Z Z:end rule u=S Z:end rule v=X Y Z:end rule w=Y S:end");
        int[] comes = {1, 1, 1, 0, 0, 0, 0, 0};
        for (int r = 0; r < comes.length; r++) {
            due("rule " + r, desk.rule(r, 3), comes[r]);
        }
        // Also on an object whose first symbol had a TREE by earlier grammars.
        desk = deskOf(SUM);
        due("no TREE of the first ends", Tape.grammar(desk, "sym S;sym X;rule s=S S X:end rule x=X:end"), 2);
        due("so its RULE can't come", desk.rule(0, 3), 0);
        due("nor can its CHILD's", desk.rule(1, 3), 0);
        // Twelve symbols in a row, by RULES that stand with it or against it.
        String symbols = "";
        String with = "";
        String against = "";
        for (int s = 0; s < 12; s++) {
            symbols += "sym " + letter(s) + ";";
            String rule = "rule " + letter(s) + "=" + letter(s) + (s < 11 ? " " + letter(s + 1) : "") + ":end ";
            with = with + rule;
            against = rule + against;
        }
        for (String rules : new String[] {with, against}) {
            // The last RULE asks whether the first symbol has a TREE.
            desk = deskOf(symbols + rules + "rule z=a a:end");
            for (int r = 0; r < 13; r++) {
                due("in a row " + r, desk.rule(r, 3), 1);
            }
            desk = deskOf(symbols + rules.replace("rule l=l:end ", ""));
            for (int r = 0; r < 11; r++) {
                due("in a row without end " + r, desk.rule(r, 3), 0);
            }
        }
        due("TOO LARGE for the other test alone", deskOf(LARGE).rule(2, 3), 1);
    }

    private static void rulePlain() {
        AttributeDesk desk = deskOf("sym S syn v;sym X inh i syn s;sym Z;rule a=S X:0.v=1;1.i=1.s;end rule b=S X:0.v=1.s;1.i=0.v;"
                + "end rule c=S X:0.v=1.s;1.i=1;end rule x=X:0.s=1;end rule y=X Z:0.s=0.i;end rule d=S:0.v=0.v;end");
        int[] round = {1, 1, 0, 0, 0, 1};
        for (int r = 0; r < round.length; r++) {
            due("rule " + r, desk.rule(r, 4), round[r]);
        }
        due("TOO LARGE for the other test alone", deskOf(LARGE).rule(0, 4), 0);
    }

    private static void ruleExact() {
        AttributeDesk desk = deskOf("sym S syn v;sym X inh i syn s;sym Z;sym W syn v;rule a=S X:0.v=1;1.i=1.s;end rule x=X:0.s=1;end "
                + "rule y=X Z:0.s=0.i;end rule d=S:0.v=0.v;end rule e=S Z:0.v=0.v;end rule w=W:0.v=0.v;end "
                + "rule f=S X Z:0.v=1.s;1.i=0.v;end");
        // y's CHILD has no GRAPH, so X has the one of x alone; nor has e's, though its EQUATION goes round.
        int[] round = {0, 0, 0, 1, 0, 1, 0};
        for (int r = 0; r < round.length; r++) {
            due("rule " + r, desk.rule(r, 5), round[r]);
        }
        due("but by the plain ones", desk.rule(4, 4), 1);
        desk = deskOf(LARGE);
        due("TOO LARGE", desk.rule(0, 5), -2);
        due("TOO LARGE", desk.rule(14, 5), -2);
        due("no such RULE", desk.rule(15, 5), NONE);
    }

    private static void ruleChild() {
        AttributeDesk desk = deskOf("sym A;sym B;sym C;rule a=A C B A:end rule b=B C:end rule c=C:end");
        int[][] symbols = {{NONE, 2, 1, 0, NONE}, {NONE, 2, NONE, NONE, NONE}, {NONE, NONE, NONE, NONE, NONE}};
        for (int r = 0; r < 3; r++) {
            for (int k = 0; k <= 4; k++) {
                due("CHILD " + k + " of " + r, desk.rule(r, 10 + k), symbols[r][k]);
            }
        }
    }

    private static void ruleOthers() {
        AttributeDesk desk = deskOf(SUM);
        for (int what : new int[] {-1, 6, 7, 8, 9, 10, 13, 14, 20, 100, 110}) {
            due("what " + what, desk.rule(2, what), NONE);
        }
        for (int far : FAR) {
            due("what " + far, desk.rule(2, far), NONE);
            for (int what : new int[] {0, 3, 5, 11}) {
                due("rule " + far, desk.rule(far, what), NONE);
            }
        }
        for (int r : new int[] {-1, 3, 4, 29, 30, 31}) {
            for (int what : new int[] {0, 1, 2, 3, 4, 5, 11}) {
                due("rule " + r, desk.rule(r, what), NONE);
            }
        }
        desk = deskOf(full());
        due("the 30th", desk.rule(29, 2), 6);
        for (int what : new int[] {0, 1, 2, 3, 4, 5, 11}) {
            due("no 31st", desk.rule(30, what), NONE);
        }
    }

    // Promise 10

    private static void testExact() {
        due("no TREE goes round", deskOf(SUM).test(0), 1);
        due("some does", deskOf("sym S syn v;rule a=S:0.v=1;end rule b=S:0.v=0.v;end").test(0), 0);
        due("TOO LARGE", deskOf(LARGE).test(0), -2);
        due("TOO LARGE, though some does", deskOf(LARGE.replace("0.v=own", "0.v=0.v")).test(0), -2);
        due("one RULE less isn't", deskOf(LARGE.substring(0, LARGE.lastIndexOf("rule"))).test(0), 1);
    }

    private static void testPlain() {
        due("no way round", deskOf(SUM).test(1), 1);
        due("some", deskOf("sym S syn v;rule a=S:0.v=1;end rule b=S:0.v=0.v;end").test(1), 0);
        due("TOO LARGE for the other alone", deskOf(LARGE).test(1), 1);
        due("TOO LARGE for the other alone", deskOf(LARGE.replace("0.v=own", "0.v=0.v")).test(1), 0);
    }

    private static void testOthers() {
        AttributeDesk desk = new AttributeDesk();
        Tape.grammar(desk, "sym S;");
        due("without a grammar", desk.test(0), NONE);
        due("without a grammar", desk.test(1), NONE);
        for (String grammar : new String[] {SUM, LARGE}) {
            Tape.grammar(desk, grammar);
            due("others", desk.test(-1), NONE);
            due("others", desk.test(2), NONE);
            due("others", desk.test(3), NONE);
            for (int far : FAR) {
                due("others", desk.test(far), NONE);
            }
        }
    }

    // Promise 11

    private static void nodeAnswers() {
        AttributeDesk desk = deskOf(SUM, "(top 4(two 3(one 5)(two(one 2147483647)(one))))");
        int[][] nodes = {{0, NONE, 0, 4, 0}, {2, 0, 1, 3, 1}, {1, 1, 1, 5, 1}, {2, 1, 2, 0, 1}, {1, 3, 1, MOST, 1}, {1, 3, 2, 0, 1}};
        for (int n = 0; n < nodes.length; n++) {
            for (int what = 0; what < 5; what++) {
                due("node " + n + " " + what, desk.node(n, what), nodes[n][what]);
            }
        }
    }

    private static void nodeOthers() {
        AttributeDesk desk = deskOf(SUM, SUM_TREE);
        for (int what : new int[] {-1, 5, 6, 10, 100}) {
            due("what " + what, desk.node(1, what), NONE);
        }
        for (int far : FAR) {
            due("what " + far, desk.node(1, far), NONE);
            due("node " + far, desk.node(far, 0), NONE);
            due("node " + far, desk.node(far, 3), NONE);
        }
        for (int n : new int[] {-1, 4, 5, 199, 200, 201}) {
            for (int what = 0; what < 5; what++) {
                due("node " + n, desk.node(n, what), NONE);
            }
        }
        // Nor one of a larger TREE that stood there before.
        Tape.tree(desk, "(top(one))");
        due("the last", desk.node(1, 0), 1);
        due("none behind", desk.node(2, 0), NONE);
        desk = deskOfFullTree();
        due("the 200th", desk.node(199, 0), 2);
        for (int what = 0; what < 5; what++) {
            due("no 201st", desk.node(200, what), NONE);
        }
    }

    // Promise 12

    private static void ownBecomes() {
        AttributeDesk desk = deskOf(SUM, SUM_TREE);
        for (int v : new int[] {0, 1, -1, MOST, LEAST, MOST - 1, LEAST + 1, -5}) {
            for (int n = 0; n < 4; n++) {
                due("own", desk.own(n, v), true);
                due("OWN", desk.node(n, 3), v);
            }
        }
        due("own", desk.own(2, MOST), true);
        due("own", desk.own(3, -6), true);
        due("demand", desk.demand(0, 0), 0);
        due("by the last ones", desk.value(0, 0, 1), MOST - 5);
        due("another's stays", desk.node(1, 3), -5);
    }

    private static void ownFalse() {
        AttributeDesk desk = deskOf(SUM, SUM_TREE);
        desk.demand(0, 0);
        for (int n : new int[] {-1, 4, 5, 199, 200, 201}) {
            due("none such", desk.own(n, 9), false);
        }
        for (int far : FAR) {
            due("none such", desk.own(far, 9), false);
        }
        int[] owns = {0, 0, 5, 7};
        for (int n = 0; n < 4; n++) {
            due("OWN", desk.node(n, 3), owns[n]);
        }
        due("none changes", desk.about(4), 7);
        desk = deskOf(SUM);
        due("without a TREE", desk.own(0, 1), false);
        Tape.tree(desk, SUM_TREE);
        Tape.tree(desk, "(top(one))");
        due("of a TREE that stood there before", desk.own(2, 1), false);
        desk = deskOfFullTree();
        due("the 200th", desk.own(199, 1), true);
        due("no 201st", desk.own(200, 1), false);
    }

    // Promise 13

    private static void demandAnswers() {
        AttributeDesk desk = deskOf("sym S syn a syn b syn c syn d syn e syn f;rule r=S:0.a=5;0.b=5/0;0.c=0.c;0.d=0.b;0.e=0.c;"
                + "0.f=-1;end", "(r)");
        int[] outcomes = {0, 1, 2, 1, 2, 0};
        for (int round = 0; round < 2; round++) {
            for (int a = 0; a < 6; a++) {
                due("attribute " + a, desk.demand(0, a), outcomes[a]);
            }
        }
        due("worked out", desk.about(4), 4);
        due("by its number", desk.value(0, 5, 1), -1);
    }

    private static void demandNone() {
        AttributeDesk desk = deskOf(SUM, SUM_TREE);
        due("the second of L", desk.demand(1, 1), 0);
        int before = desk.about(4);
        due("no second of S", desk.demand(0, 1), NONE);
        for (int a : new int[] {-1, 2, 3, 5, 6, 7}) {
            due("none such", desk.demand(1, a), NONE);
        }
        for (int n : new int[] {-1, 4, 5, 199, 200, 201}) {
            due("no NODE", desk.demand(n, 0), NONE);
        }
        for (int far : FAR) {
            due("none such", desk.demand(1, far), NONE);
            due("no NODE", desk.demand(far, 0), NONE);
            due("no NODE", desk.demand(far, far), NONE);
        }
        // 6 times these would be NODE 0's number, were it not too large.
        due("no NODE", desk.demand(715827883, 0), NONE);
        due("no NODE", desk.demand(-715827883, 0), NONE);
        due("none is worked out", desk.about(4), before);
        due("without a TREE", deskOf(SUM).demand(0, 0), NONE);
        due("of none", deskOf("sym S;rule a=S:end", "(a)").demand(0, 0), NONE);
        desk = deskOfFullTree();
        due("the sixth of the 200th", desk.demand(199, 5), 0);
        due("no seventh", desk.demand(199, 6), NONE);
        due("no 201st", desk.demand(200, 0), NONE);
    }

    // Promise 14

    private static void valueDemandsNot() {
        AttributeDesk desk = deskOf(SUM, SUM_TREE);
        for (int n = 0; n < 4; n++) {
            for (int what = 0; what < 2; what++) {
                due("not worked out", desk.value(n, 0, what), what == 0 ? NONE : 0);
            }
        }
        due("none is demanded", desk.about(4), 0);
        due("none is worked out", desk.order(0), NONE);
        desk.demand(2, 1);
        due("what it hangs on", desk.value(2, 0, 0), 0);
        due("what doesn't", desk.value(3, 0, 0), NONE);
        due("what hangs on it", desk.value(1, 1, 0), NONE);
        due("none more", desk.about(4), 3);
    }

    private static void valueKind() {
        AttributeDesk desk = deskOf("sym S syn a syn b syn c syn d;rule r=S:0.a=0;0.b=5%0;0.c=0.c;0.d=-1;end", "(r)");
        for (int a = 0; a < 4; a++) {
            due("not worked out yet", desk.value(0, a, 0), NONE);
        }
        for (int a = 0; a < 4; a++) {
            desk.demand(0, a);
        }
        int[] kinds = {0, 1, NONE, 0};
        for (int a = 0; a < 4; a++) {
            due("attribute " + a, desk.value(0, a, 0), kinds[a]);
        }
    }

    private static void valueNumber() {
        AttributeDesk desk = deskOf("sym S syn a syn b syn c syn d syn e;rule r=S:0.a=-1;0.b=if own then 7/0 else 7;0.c=0.c;"
                + "0.d=2147483647+1;0.e=9;end", "(r)");
        for (int a = 0; a < 4; a++) {
            due("not worked out", desk.value(0, a, 1), 0);
            desk.demand(0, a);
        }
        int[] numbers = {-1, 7, 0, LEAST, 0};
        for (int a = 0; a < 5; a++) {
            due("attribute " + a, desk.value(0, a, 1), numbers[a]);
        }
        due("own", desk.own(0, 1), true);
        due("no longer", desk.value(0, 1, 1), 0);
        desk.demand(0, 1);
        due("BAD", desk.value(0, 1, 1), 0);
    }

    private static void valueOthers() {
        AttributeDesk desk = deskOf(SUM, SUM_TREE);
        desk.demand(0, 0);
        for (int what : new int[] {-1, 2, 3, 4}) {
            due("what " + what, desk.value(0, 0, what), NONE);
        }
        for (int what = 0; what < 2; what++) {
            for (int far : FAR) {
                due("what " + far, desk.value(0, 0, far), NONE);
                due("attribute " + far, desk.value(0, far, what), NONE);
                due("NODE " + far, desk.value(far, 0, what), NONE);
            }
            for (int a : new int[] {-1, 1, 2, 5, 6, 7}) {
                due("attribute " + a, desk.value(0, a, what), NONE);
            }
            for (int n : new int[] {-1, 4, 199, 200, 715827883, -715827883}) {
                due("NODE " + n, desk.value(n, 0, what), NONE);
            }
            due("no third of L", desk.value(1, 2, what), NONE);
        }
        desk = deskOfFullTree();
        for (int what = 0; what < 2; what++) {
            due("the sixth of the 200th", desk.value(199, 5, what), what == 0 ? NONE : 0);
            due("no seventh", desk.value(199, 6, what), NONE);
            due("no 201st", desk.value(200, 0, what), NONE);
        }
    }

    // Promise 15

    private static void orderSince() {
        AttributeDesk desk = deskOf(SUM, SUM_TREE);
        desk.demand(3, 1);
        due("three so far", desk.about(4), 3);
        desk.demand(0, 0);
        int[] order = {6, 18, 19, 12, 13, 7, 0};
        for (int i = 0; i < order.length; i++) {
            due("order " + i, desk.order(i), order[i]);
        }
        due("since an OWN changed", desk.own(2, 6), true);
        due("none", desk.order(0), NONE);
        desk.demand(2, 0);
        due("the first since", desk.order(0), 6);
        due("the second since", desk.order(1), 12);
        due("none more", desk.order(2), NONE);
        Tape.tree(desk, SUM_TREE);
        due("since the TREE was read", desk.order(0), NONE);
        desk.demand(1, 0);
        due("the first since", desk.order(0), 6);
        due("none more", desk.order(1), NONE);
    }

    private static void orderNumbers() {
        AttributeDesk desk = deskOfFullTree();
        int[][] items = {{199, 5}, {0, 0}, {0, 5}, {199, 0}, {1, 0}, {100, 3}};
        for (int i = 0; i < items.length; i++) {
            due("demand", desk.demand(items[i][0], items[i][1]), 0);
            due("order " + i, desk.order(i), 6 * items[i][0] + items[i][1]);
        }
    }

    private static void orderNone() {
        due("without a TREE", deskOf(SUM).order(0), NONE);
        AttributeDesk desk = deskOf(SUM, SUM_TREE);
        due("none yet", desk.order(0), NONE);
        desk.demand(0, 0);
        due("the last", desk.order(6), 0);
        for (int i : new int[] {-1, 7, 8, 1199, 1200, 1201}) {
            due("none such", desk.order(i), NONE);
        }
        for (int far : FAR) {
            due("none such", desk.order(far), NONE);
        }
    }

    // Promise 16

    private static void aboutAnswers() {
        AttributeDesk desk = new AttributeDesk();
        about(desk, 0, 0, 0, 0, 0);
        Tape.put(desk, SUM);
        about(desk, SUM.length(), 0, 0, 0, 0);
        desk.grammar();
        about(desk, 0, 2, 3, 0, 0);
        Tape.put(desk, SUM_TREE);
        about(desk, SUM_TREE.length(), 2, 3, 0, 0);
        desk.tree();
        about(desk, 0, 2, 3, 4, 0);
        desk.demand(3, 1);
        about(desk, 0, 2, 3, 4, 3);
        desk.demand(0, 0);
        about(desk, 0, 2, 3, 4, 7);
        desk.own(3, 8);
        about(desk, 0, 2, 3, 4, 0);
        desk.demand(3, 1);
        desk.feed(1, 2, 3, 4, 5);
        about(desk, 20, 2, 3, 4, 3);
        due("end", desk.end(7), 7);
        about(desk, 7, 2, 3, 4, 3);
    }

    private static void aboutOthers() {
        AttributeDesk desk = deskOf(SUM, SUM_TREE);
        desk.demand(0, 0);
        for (int what : new int[] {-1, 5, 6, 10}) {
            due("what " + what, desk.about(what), NONE);
        }
        for (int far : FAR) {
            due("what " + far, desk.about(far), NONE);
        }
    }
}
