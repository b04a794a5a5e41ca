/** What the document promises, promise by promise: ordinary inputs, its edges and wrong inputs. */
public final class PromisesTest extends Checks {
    private static final String SUM = "sym S syn v; sym L inh p syn v; "
            + "rule top = S L : 0.v = 1.v; 1.p = 0; end "
            + "rule one = L : 0.v = 0.p + own; end "
            + "rule two = L L L : 0.v = 1.v + 2.v; 1.p = 0.p + 1; 2.p = 0.p; end";
    private static final String KNUTH = "sym S syn v; sym X inh a inh b syn c syn d; "
            + "rule t = S X : 0.v = 1.c + 1.d; 1.a = 1.d; 1.b = 1.c; end "
            + "rule p = X : 0.c = 0.a; 0.d = 1; end rule q = X : 0.c = 2; 0.d = 0.b; end";

    public static void main(String[] args) {
        newObject();
        feedAndEnd();
        grammarReplaces();
        tokens();
        cutTexts();
        grammarShape();
        grammarNames();
        grammarLimits();
        expressionShape();
        expressionLimits();
        equations();
        treeReplaces();
        treeFaults();
        treeLimits();
        faultAnswers();
        symbolAnswers();
        graphAnswers();
        ruleAnswers();
        testAnswers();
        tooLarge();
        choiceLimit();
        unproductive();
        fullGrammar();
        leftOvers();
        nodeAnswers();
        ownAnswers();
        demandAnswers();
        goesRound();
        values();
        badValues();
        orderAnswers();
        deepestTree();
        fullTree();
        aboutAnswers();
        System.out.println(wrong == 0 ? "all promises are kept" : wrong + " answers are wrong");
        if (wrong != 0) {
            System.exit(1);
        }
    }

    // Promise 1
    private static void newObject() {
        AttributeDesk desk = new AttributeDesk();
        for (int what = -1; what <= 5; what++) {
            due("about new " + what, desk.about(what), what >= 0 && what <= 4 ? 0 : NONE);
            due("fault new " + what, desk.fault(what), NONE);
            due("symbol new", desk.symbol(0, what), NONE);
            due("rule new", desk.rule(0, what), NONE);
            due("node new", desk.node(0, what), NONE);
            due("test new", desk.test(what), NONE);
            due("value new", desk.value(0, 0, what), NONE);
        }
        due("graph new", desk.graph(0, 0), NONE);
        due("demand new", desk.demand(0, 0), NONE);
        due("order new", desk.order(0), NONE);
        due("own new", desk.own(0, 0), false);
        due("tree new", desk.tree(), -2);
        due("end new", desk.end(0), 0);
        due("end new 1", desk.end(1), NONE);
    }

    // Promises 2 and 3
    private static void feedAndEnd() {
        AttributeDesk desk = new AttributeDesk();
        for (int i = 1; i <= 150; i++) {
            due("feed", desk.feed(0, -1, MOST, LEAST, 5), 20 * i);
        }
        due("feed above 3,000", desk.feed(0, 0, 0, 0, 0), NONE);
        due("bytes", desk.about(0), 3000);
        due("end below", desk.end(-1), NONE);
        due("end least", desk.end(LEAST), NONE);
        due("end above", desk.end(3001), NONE);
        due("end most", desk.end(MOST), NONE);
        due("bytes stay", desk.about(0), 3000);
        due("end all", desk.end(3000), 3000);
        due("end", desk.end(2981), 2981);
        due("feed to 3,001", desk.feed(0, 0, 0, 0, 0), NONE);
        due("none come", desk.about(0), 2981);
        due("end", desk.end(2980), 2980);
        due("feed to 3,000", desk.feed(0, 0, 0, 0, 0), 3000);
        due("end 0", desk.end(0), 0);
        // The highest byte first, and behind the tape: the cut is made up for by the next.
        String head = "sym S syn v;rule a=S";
        String tail = ":0.v=1;end          ";
        desk.feed(Tape.word(head, 0), Tape.word(head, 4), Tape.word(head, 8), Tape.word(head, 12), Tape.word("", 0));
        due("end 16", desk.end(16), 16);
        desk.feed(Tape.word(head, 16), Tape.word(tail, 0), Tape.word(tail, 4), Tape.word(tail, 8), Tape.word(tail, 12));
        due("bytes", desk.about(0), 36);
        due("grammar of two parts", desk.grammar(), 1);
        due("tape is empty", desk.about(0), 0);
    }

    // Promise 4
    private static void grammarReplaces() {
        AttributeDesk desk = deskOf(SUM, "(top (two (one 5) (one 7)))");
        desk.demand(0, 0);
        due("worked out", desk.about(4), 7);
        Tape.put(desk, "sym A; rule");
        due("grammar with FAULT", desk.grammar(), NONE);
        due("tape is empty", desk.about(0), 0);
        due("RULES stay", desk.about(2), 3);
        due("NODES stay", desk.about(3), 4);
        due("values stay", desk.about(4), 7);
        due("order stays", desk.order(5), 7);
        due("value stays", desk.value(0, 0, 1), 13);
        due("symbol stays", desk.symbol(1, 0), 2);
        due("test stays", desk.test(0), 1);
        due("tree still", Tape.tree(desk, "(top (one 3))"), 2);
        due("grammar", Tape.grammar(desk, "sym A; rule a = A : end"), 1);
        due("no TREE", desk.about(3), 0);
        due("nothing worked out", desk.about(4), 0);
        due("no order", desk.order(0), NONE);
        due("no node", desk.node(0, 0), NONE);
        due("no value", desk.value(0, 0, 0), NONE);
        due("one symbol", desk.about(1), 1);
        due("its attributes", desk.symbol(0, 0), 0);
        due("no second symbol", desk.symbol(1, 0), NONE);
        due("old RULE is gone", Tape.tree(desk, "(top)"), NONE);
        due("new RULE", Tape.tree(desk, "(a)"), 1);
        due("the first again", Tape.grammar(desk, SUM), 3);
        due("its TREE", Tape.tree(desk, "(top (one 4))"), 2);
        due("demand", desk.demand(0, 0), 0);
        due("value", desk.value(0, 0, 1), 4);
    }

    // I. GRAMMARS: TOKENS
    private static void tokens() {
        fine("sym S syn v;rule a=S:0.v=1;end", 1);
        fine("\n sym\nS  syn v ;\n\nrule a = S : 0 . v = 1 ; end\n ", 1);
        fine("sym abcdefgh syn ABCDEFGH;rule zZzZzZzZ=abcdefgh:0.ABCDEFGH=1;end", 1);
        fine("sym S syn v;rule a=S:00000000000000000000.v=00000000000000000001;end", 1);
        fine("sym S syn v;rule a=S:0.v=2147483647;end", 1);
        faultAt("sym|\tS;rule a=S:end", 1);
        faultAt("sym|\rS;rule a=S:end", 1);
        faultAt("sym S;rule a=S:end|\0", 1);
        faultAt("sym S;rule a=S:end|" + (char) 233, 1);
        faultAt("sym S;rule a=S:end |,", 1);
        faultAt("sym |abcdefghi;rule a=S:end", 1);
        faultAt("sym S;rule |abcdefghi=S:end", 1);
        faultAt("sym S;rule |rulerulerule=S:end", 1);
        faultAt("|symS;rule a=S:end", 1);
        faultAt("|Sym S;rule a=S:end", 1);
        faultAt("sym |1;rule a=S:end", 1);
        faultAt("sym S|1;rule a=S:end", 1);
        for (String key : new String[] {"sym", "inh", "syn", "rule", "end", "own", "if", "then", "else"}) {
            faultAt("sym |" + key + ";rule a=S:end", 1);
            faultAt("sym S syn |" + key + ";rule a=S:end", 1);
            faultAt("sym S;rule |" + key + "=S:end", 1);
            fine("sym " + key + "s syn S" + key + ";rule s" + key + "=" + key + "s:0.S" + key + "=1;end", 1);
        }
    }

    /** What once stood behind the end of the tape is no part of it. */
    private static void cutTexts() {
        AttributeDesk desk = new AttributeDesk();
        cut(desk, "sym S syn v;rule a=S:0.v=1|.v;end", 1, 26);
        cut(desk, "sym S;rule a=S:en|d", 1, 15);
        cut(desk, "sym S|;rule a=S:end", 1, 5);
        Tape.put(desk, "sym S;rule a=S:endend");
        desk.end(18);
        due("a cut grammar", desk.grammar(), 1);
        Tape.put(desk, "(a 21474836478)");
        desk.end(13);
        due("a cut tree", desk.tree(), NONE);
        due("its FAULT", desk.fault(0), 1);
        due("its place", desk.fault(1), 13);
    }

    private static void cut(AttributeDesk desk, String text, int fault, int place) {
        Tape.put(desk, text.replace("|", ""));
        desk.end(text.indexOf('|'));
        due("cut " + text, desk.grammar(), NONE);
        due("FAULT of cut " + text, desk.fault(0), fault);
        due("place of cut " + text, desk.fault(1), place);
    }

    // I. GRAMMARS: FAULT 1
    private static void grammarShape() {
        fault("", 1, 0);
        fault("  \n ", 1, 4);
        faultAt("|rule a=S:end", 1);
        fault("sym", 1, 3);
        fault("sym S  ", 1, 7);
        fault("sym S;", 1, 6);
        faultAt("sym S |v;rule a=S:end", 1);
        faultAt("sym S inh |;rule a=S:end", 1);
        faultAt("sym S inh v |w;rule a=S:end", 1);
        faultAt("sym S;|end", 1);
        fault("sym S;rule", 1, 10);
        fault("sym S;rule a", 1, 12);
        faultAt("sym S;rule a |S", 1);
        faultAt("sym S;rule a = |:", 1);
        faultAt("sym S;rule a = S |;", 1);
        fault("sym S;rule a = S", 1, 16);
        fault("sym S;rule a = S :", 1, 18);
        faultAt("sym S;rule a = S : |rule", 1);
        faultAt("sym S;rule a = S : end |sym T;", 1);
        faultAt("sym S;rule a = S : end |;", 1);
        faultAt("sym S;rule a = S : end |end", 1);
        faultAt("sym S syn v;rule a=S:|v=1;end", 1);
        faultAt("sym S syn v;rule a=S:0|v=1;end", 1);
        faultAt("sym S syn v;rule a=S:0.|1=1;end", 1);
        faultAt("sym S syn v;rule a=S:0.v|:1;end", 1);
        faultAt("sym S syn v;rule a=S:0.v=1 |end", 1);
        faultAt("sym S syn v;rule a=S:0.v=1;|;end", 1);
        fine("sym S;rule a = S : end", 1);
        fine("sym S;sym T;rule a = T : end rule b = T S T S : end", 2);
    }

    // I. GRAMMARS: FAULTS 2, 3 and 9
    private static void grammarNames() {
        faultAt("sym S;sym T;sym |S;rule a=S:end", 2);
        faultAt("sym S;rule a=S:end rule b=S:end rule |a=S:end", 2);
        faultAt("sym S syn v inh |v;rule a=S:end", 2);
        fine("sym a syn a;sym b inh a syn b;rule a=a:0.a=1;end rule b=b:0.b=1;end", 2);
        fine("sym S;sym s;rule a=S:end rule A=s:end", 2);
        faultAt("sym S;rule a=|T:end", 3);
        faultAt("sym S;rule a=S |T:end", 3);
        faultAt("sym S;rule a=S S S |T:end", 3);
        faultAt("sym S;rule a=S S S S |T:end", 3);
        faultAt("sym S syn v;rule a=S S:|2.v=1;end", 3);
        faultAt("sym S syn v;rule a=S S:|2:=1;end", 3);
        faultAt("sym S syn v;rule a=S S:|2147483648.v=1;end", 3);
        faultAt("sym S syn v;rule a=S S:|4294967296.v=1;end", 3);
        faultAt("sym S syn v;rule a=S:0.|w=1;end", 3);
        faultAt("sym S syn v;sym T syn w;rule a=S T:0.|w=1;end", 3);
        faultIn("|2.s", 3);
        faultIn("1 + |3 . s", 3);
        faultIn("|2147483648.s", 3);
        faultIn("1.|v", 3);
        faultIn("0.|s", 3);
        faultIn("0.|i", 3);
        fault("sym S inh v;rule a=S:end ", 9, 25);
        fault("sym S inh v syn w;sym T;rule a=S:0.w=1;end", 9, 42);
        faultAt("sym S inh v;rule a=S:end |x", 1);
        fine("sym S;sym T inh v;rule a=T:end", 1);
    }

    // I. GRAMMARS: FAULT 4, but in an E
    private static void grammarLimits() {
        String symbols = "";
        for (int i = 0; i < 12; i++) {
            symbols += "sym " + letter(i) + ";";
        }
        fine(symbols + "rule a=l:end", 1);
        faultAt(symbols + "sym |m;rule a=a:end", 4);
        faultAt(symbols + "sym |l;rule a=a:end", 2);
        faultAt(symbols + "sym |if;rule a=a:end", 1);
        String rules = "sym S;";
        for (int i = 0; i < 30; i++) {
            rules += "rule r" + letter(i / 6) + letter(i % 6) + "=S:end ";
        }
        fine(rules, 30);
        faultAt(rules + "rule |x=S:end", 4);
        faultAt(rules + "rule |raa=S:end", 2);
        faultAt(rules + "rule |;", 1);
        String six = "sym T;sym S inh a syn b inh c syn d inh e syn f";
        fine(six + ";rule a=T:end", 1);
        faultAt(six + " inh |g;rule a=T:end", 4);
        faultAt(six + " inh |f;rule a=T:end", 2);
        faultAt(six + " inh |;rule a=T:end", 1);
        fine("sym S;rule a=S S S S:end", 1);
        faultAt("sym S;rule a=S S S S |S:end", 4);
    }

    // I. GRAMMARS: E
    private static void expressionShape() {
        faultIn("|", 1);
        faultIn("|;", 1);
        faultIn("1 |2", 1);
        faultIn("1 |own", 1);
        faultIn("own |(1)", 1);
        faultIn("1 + |", 1);
        faultIn("1 + |+ 2", 1);
        faultIn("1 + |* 2", 1);
        faultIn("|* 2", 1);
        faultIn("|v", 1);
        faultIn("(|)", 1);
        faultIn("(1|", 1);
        faultIn("1|)", 1);
        faultIn("(1)|)", 1);
        faultIn("1 < 2 |< 3", 1);
        faultIn("1 = 2 |= 3", 1);
        faultIn("1 < 2 + 3 |= 3", 1);
        fineIn("(1 < 2) < 3");
        fineIn("1 < (2 = 3)");
        fineIn("if 1 < 2 then 1 < 2 else 1 < 2");
        faultIn("if 1 then 2 else 3 < 4 |= 5", 1);
        faultIn("1 + |if 1 then 2 else 3", 1);
        faultIn("- |if 1 then 2 else 3", 1);
        faultIn("1 < |if 1 then 2 else 3", 1);
        fineIn("1 + (if 1 then 2 else 3)");
        fineIn("if if 1 then 2 else 3 then if 4 then 5 else 6 else if 7 then 8 else 9");
        faultIn("if 1 |else 2", 1);
        faultIn("if 1 then 2 |", 1);
        faultIn("if 1 then 2 |then 3 else 4", 1);
        faultIn("if 1 then 2 else 3 |else 4", 1);
        faultIn("if (1 |then 2 else 3)", 1);
        faultIn("(if 1 |) then 2 else 3", 1);
        faultIn("(if 1 then 2 |) else 3", 1);
        faultIn("1 |then 2", 1);
        faultIn("0.|1", 1);
        faultIn("0.v |.w", 1);
        faultIn("1 + 0 |own", 1);
        faultIn("own|.v", 1);
        faultIn("0 .|.v", 1);
        fineIn("- - -(own)");
        fineIn("1 - - - 1");
        fault("sym S syn v;rule a=S:0.v=1 + ", 1, 29);
        fault("sym S syn v;rule a=S:0.v=(0.", 1, 28);
    }

    private static void expressionLimits() {
        // 39 TOKENS, then 41 of which the last is at fault.
        fineIn("1" + times("+1", 19));
        faultIn("1" + times("+1", 19) + "+|1", 4);
        fineIn("-1" + times("+1", 19));
        faultIn("-1" + times("+1", 19) + "|+1", 4);
        faultIn("-1" + times("+1", 19) + "|own", 1);
        faultIn("-1" + times("+1", 19) + "|)", 1);
        faultIn("(1" + times("+1", 19) + "|)", 4);
        faultIn("-1" + times("+1", 19) + "|<1", 4);
        faultIn("-1" + times("+1", 19) + "|*1", 4);
        faultIn("-1" + times("+1", 19) + "|then", 1);
        faultIn("if 1" + times("+1", 19) + "|then", 4);
        faultIn("if 1 then 1" + times("+1", 18) + "|else", 4);
        faultIn("if 1 then 1" + times("+1", 17) + " else|", 1);
        // The TOKENS of OCCS count: the 39th to 41st, and the 40th to 42nd.
        faultIn("1" + times("+1", 18) + "+0.|w", 4);
        faultIn("1" + times("+1", 18) + "+0.|x", 3);
        faultIn("1" + times("+1", 18) + "+0.|1", 1);
        faultIn("-1" + times("+1", 18) + "+0|.w", 4);
        faultIn("1" + times("+1", 19) + "+|0.w", 4);
        faultIn("1" + times("+1", 19) + "+|2.w", 3);
        faultIn("1" + times("+1", 19) + "+|2147483648", 4);
        faultIn("-1" + times("+1", 18) + "+|2147483648", 5);
        fineIn("-1" + times("+1", 17) + "+0.w");
        faultIn("|2147483648", 5);
        faultIn("-|2147483648", 5);
        faultIn("|21474836470", 5);
        faultIn("1 + |99999999999999999999999999999999999999", 5);
        // What is open around one another.
        fineIn(times("-", 20) + "1");
        faultIn(times("-", 20) + "|-1", 4);
        faultIn(times("-", 20) + "|(1)", 4);
        faultIn(times("-", 20) + "|if 1 then 2 else 3", 1);
        fineIn(times("-", 20) + "1-" + times("-", 17) + "1");
        fineIn("(" + times("-", 19) + "1*" + times("-", 16) + "1)");
        faultIn("(" + times("-", 19) + "1*" + times("-", 16) + "1+|1)", 4);
        faultIn(times("(", 20) + "|(1", 4);
        faultIn(times("(", 19) + "-|-1", 4);
        faultIn(times("(", 20) + "|-1", 4);
        faultIn(times("(", 20) + "|if", 4);
        fineIn("(" + times("(-", 9) + "-1" + times(")", 9) + ")");
        faultIn(times("if ", 20) + "|if", 4);
        faultIn(times("if ", 20) + "|(", 4);
        faultIn(times("if ", 19) + "(|if", 4);
        faultIn("if 1 then if 1 then if 1 then if 1 then if 1 then " + times("-", 15) + "|-1", 4);
        faultIn("if 1 then 2 else if 1 then 2 else " + times("(", 18) + "|(1", 4);
        faultIn("if 1 then 2 else 3 + " + times("(", 19) + "|(1", 4);
        faultIn("(if 1 then 2 else 3) + " + times("(", 20) + "|(1", 4);
        faultIn("if 1 then 2 else if " + times("-", 18) + "|-1", 4);
        fineIn("if if 1 then 2 else 3 then " + times("-", 19) + "1 else 2");
        faultIn("if if 1 then 2 else 3 then " + times("-", 19) + "|-1 else 2", 4);
        fineIn("(if 1 then 2 else 3)*" + times("-", 20) + "1");
        faultIn("(if 1 then 2 else 3)*" + times("-", 20) + "|-1", 4);
    }

    // I. GRAMMARS: FAULTS 6, 7 and 8
    private static void equations() {
        String two = "sym S syn v; sym X inh i syn s; rule x = X : 0.s = 0.i; end rule a = S X X : ";
        fine(two + "0.v = 1; 1.i = 1; 2.i = 1; end", 2);
        fine(two + "2.i = 1.i; 1.i = 0.v; 0.v = 2.s; end", 2);
        faultAt(two + "1.|s = 1; end", 6);
        faultAt(two + "2.i = 1; 2.|s = 1; end", 6);
        faultAt("sym S syn v; sym X inh i syn s; rule x = X : 0.|i = 1; end", 6);
        faultAt(two + "0.v = 1; 0.|v = 1; end", 7);
        faultAt(two + "1.i = 1; 2.i = 1; 1.|i = 1; end", 7);
        faultAt(two + "0.v = 1; 1.i = 1; |end", 8);
        faultAt(two + "0.v = 1; 2.i = 1; |end", 8);
        faultAt(two + "1.i = 1; 2.i = 1; |end", 8);
        faultAt(two + "|end", 8);
        faultAt("sym S syn v; rule a = S : |end x", 8);
    }

    // Promise 5
    private static void treeReplaces() {
        AttributeDesk desk = new AttributeDesk();
        Tape.put(desk, "(a)");
        due("tree without grammar", desk.tree(), -2);
        due("tape stays", desk.about(0), 3);
        due("no FAULT yet", desk.fault(0), NONE);
        due("grammar", Tape.grammar(desk, SUM), 3);
        due("tree", Tape.tree(desk, "(top(two 2147483647(two 1(one)(one 5))(one 7)))"), 6);
        due("tape is empty", desk.about(0), 0);
        due("tree of an empty tape", desk.tree(), NONE);
        desk.demand(0, 0);
        due("value", desk.value(0, 0, 1), 15);
        Tape.put(desk, "(top(two(one 1)(one 2)");
        due("tree with FAULT", desk.tree(), NONE);
        due("tape is empty", desk.about(0), 0);
        due("TREE stays", desk.about(3), 6);
        due("OWN stays", desk.node(1, 3), MOST);
        due("values stay", desk.value(0, 0, 1), 15);
        due("another tree", Tape.tree(desk, " ( top ( one 9 ) ) \n"), 2);
        due("its values", desk.value(0, 0, 0), NONE);
        due("none worked out", desk.about(4), 0);
    }

    private static void treeFaults() {
        treeFault(SUM, "|", 1);
        treeFault(SUM, "  |", 1);
        treeFault(SUM, "|top", 1);
        treeFault(SUM, "(|", 1);
        treeFault(SUM, "(|)", 1);
        treeFault(SUM, "(|5", 1);
        treeFault(SUM, "(|(top", 1);
        treeFault(SUM, "(|own", 1);
        treeFault(SUM, "(|abcdefghi", 1);
        treeFault(SUM, "(top|)", 1);
        treeFault(SUM, "(top 5|)", 1);
        treeFault(SUM, "(top|", 1);
        treeFault(SUM, "(top |-5", 1);
        treeFault(SUM, "(top 5 |5", 1);
        treeFault(SUM, "(top |one", 1);
        treeFault(SUM, "(top(one)|5", 1);
        treeFault(SUM, "(top(one)|(one))", 1);
        treeFault(SUM, "(top(one|(one)))", 1);
        treeFault(SUM, "(top(two(one)|))", 1);
        treeFault(SUM, "(top(two(one)(one)|(one)", 1);
        treeFault(SUM, "(top(one)) |(top(one))", 1);
        treeFault(SUM, "(top(one))|)", 1);
        treeFault(SUM, "(top(one)) |x", 1);
        treeFault(SUM, "(top(one)) |?", 1);
        treeFault(SUM, "(top(one)|", 1);
        treeFault(SUM, "(|x", 3);
        treeFault(SUM, "(|S", 3);
        treeFault(SUM, "(|one)", 3);
        treeFault(SUM, "(top(|top(one)))", 3);
        treeFault(SUM, "(top(two(one)(|top(one)))", 3);
        treeFault(SUM, "(top |2147483648(one))", 5);
        treeFault(SUM, "(top(one |18446744073709551616))", 5);
    }

    private static void treeLimits() {
        String grammar = "sym S;rule n=S S S S:end rule l=S:end rule c=S S:end";
        AttributeDesk desk = new AttributeDesk();
        Tape.grammar(desk, grammar);
        due("40 open", Tape.tree(desk, times("(c", 39) + "(l" + times(")", 40)), 40);
        due("the deepest", desk.node(39, 1), 38);
        treeFault(grammar, times("(c", 40) + "|(l", 4);
        treeFault(grammar, times("(c", 39) + "(l|(l", 1);
        // 1 + 100 + 97 + 2 NODES, and one more.
        due("200 NODES", Tape.tree(desk, "(n" + nestOfOnes(33) + nestOfOnes(32) + "(c(l)))"), 200);
        due("the last one", desk.node(199, 0), 1);
        due("stands in", desk.node(199, 1), 198);
        due("no 201st", desk.node(200, 0), NONE);
        due("201 NODES", Tape.tree(desk, "(n" + nestOfOnes(33) + nestOfOnes(32) + "(c(c(l))))"), NONE);
        treeFault(grammar, "(n" + nestOfOnes(33) + nestOfOnes(32) + "(c(c|(l))))", 4);
        treeFault(grammar, "(n" + nestOfOnes(33) + times("(n(l 1)(l 1)", 33) + "|(l 1)", 4);
        treeFault(grammar, "(n" + nestOfOnes(33) + nestOfOnes(32) + "(c(l)|(l)))", 1);
    }

    // Promise 6
    private static void faultAnswers() {
        AttributeDesk desk = new AttributeDesk();
        Tape.grammar(desk, "sym S; rule a = T : end");
        due("FAULT", desk.fault(0), 3);
        due("place", desk.fault(1), 16);
        due("others", desk.fault(2), NONE);
        due("others", desk.fault(-1), NONE);
        due("others", desk.fault(MOST), NONE);
        due("tree without grammar", Tape.tree(desk, "(a)"), -2);
        due("FAULT stays behind -2", desk.fault(0), 3);
        due("place stays behind -2", desk.fault(1), 16);
        Tape.grammar(desk, SUM);
        due("no FAULT", desk.fault(0), 0);
        due("no place", desk.fault(1), NONE);
        Tape.tree(desk, "(one)");
        due("FAULT of a TREE", desk.fault(0), 3);
        due("its place", desk.fault(1), 1);
        Tape.tree(desk, "(top(one))");
        due("no FAULT of a TREE", desk.fault(0), 0);
        due("no place", desk.fault(1), NONE);
        Tape.grammar(desk, "");
        due("FAULT of an empty tape", desk.fault(0), 1);
        due("its place", desk.fault(1), 0);
    }

    // Promise 7
    private static void symbolAnswers() {
        AttributeDesk desk = new AttributeDesk();
        Tape.grammar(desk, KNUTH);
        due("attributes", desk.symbol(0, 0), 1);
        due("attributes", desk.symbol(1, 0), 4);
        due("inherited", desk.symbol(0, 1), 0);
        due("inherited", desk.symbol(1, 1), 2);
        due("GRAPHS", desk.symbol(0, 2), 1);
        due("GRAPHS", desk.symbol(1, 2), 2);
        due("plain", desk.symbol(0, 3), 0);
        due("plain", desk.symbol(1, 3), 9);
        int[] inherited = {1, 1, 0, 0, NONE, NONE, NONE};
        for (int a = 0; a < inherited.length; a++) {
            due("is inherited " + a, desk.symbol(1, 100 + a), inherited[a]);
        }
        for (int what : new int[] {-1, 4, 5, 99, 104, MOST, LEAST}) {
            due("symbol others " + what, desk.symbol(1, what), NONE);
        }
        for (int s : new int[] {-1, 2, 12, MOST, LEAST}) {
            due("symbol " + s, desk.symbol(s, 0), NONE);
            due("symbol " + s, desk.symbol(s, 2), NONE);
            due("symbol " + s, desk.symbol(s, 100), NONE);
        }
    }

    // Promise 8
    private static void graphAnswers() {
        AttributeDesk desk = new AttributeDesk();
        Tape.grammar(desk, KNUTH);
        due("graph", desk.graph(0, 0), 0);
        due("graph", desk.graph(0, 1), NONE);
        due("graph", desk.graph(1, 0), 1);
        due("graph", desk.graph(1, 1), 8);
        due("graph", desk.graph(1, 2), NONE);
        due("graph", desk.graph(1, -1), NONE);
        due("graph", desk.graph(1, LEAST), NONE);
        due("graph", desk.graph(1, MOST), NONE);
        due("graph", desk.graph(-1, 0), NONE);
        due("graph", desk.graph(2, 0), NONE);
        due("graph", desk.graph(MOST, 0), NONE);
        // The bits by order among the inherited and the synthesized, however these come by turns.
        Tape.grammar(desk, "sym S; sym X syn a inh b syn c inh d syn e inh f; "
                + "rule x = X : 0.a = 0.f; 0.c = 0.b; 0.e = 0.d + 0.f; end");
        due("mixed", desk.graph(1, 0), (1 << 6) + (1 << 1) + (1 << 5) + (1 << 8));
        due("mixed plain", desk.symbol(1, 3), (1 << 6) + (1 << 1) + (1 << 5) + (1 << 8));
        // By rising numbers, not as they are found; through what stands below, too; each one once.
        Tape.grammar(desk, "sym S; sym X inh i inh j syn s; sym Y inh i syn s; "
                + "rule a = X Y : 0.s = 1.s; 1.i = 0.j + 0.i; end rule b = X Y : 0.s = 1.s; 1.i = 0.i; end "
                + "rule c = X : 0.s = 0.j; end rule d = Y : 0.s = 0.i; end rule e = Y : 0.s = 1; end "
                + "rule f = X X : 0.s = 1.s; 1.i = 0.j; 1.j = 0.i; end");
        due("GRAPHS", desk.symbol(1, 2), 4);
        for (int i = 0; i < 4; i++) {
            due("rising " + i, desk.graph(1, i), i);
        }
        // Also where if doesn't choose it, and through a CHILD's inherited one that hangs on a synthesized one.
        Tape.grammar(desk, "sym S; sym X inh i syn s syn t; sym Y inh i inh j syn s syn t; "
                + "rule a = X Y : 0.s = if 1 then 2 else 1.t; 0.t = 3; 1.i = 0.i; 1.j = 1.s; end "
                + "rule b = Y : 0.s = 0.i; 0.t = 0.j; end");
        due("through both", desk.graph(1, 0), 1);
        due("below", desk.graph(2, 0), 1 + 8);
        due("attributes between", desk.symbol(1, 0), 3);
        // A synthesized one of the HEAD may hang on another.
        Tape.grammar(desk, "sym S; sym X inh i syn s syn t; rule a = X : 0.s = 0.t; 0.t = 0.i; end");
        due("by the HEAD's own", desk.graph(1, 0), 3);
    }

    // Promise 9
    private static void ruleAnswers() {
        AttributeDesk desk = new AttributeDesk();
        Tape.grammar(desk, SUM + " rule all = S S L S : 0.v = 1; 2.p = 1; end");
        due("HEAD", desk.rule(0, 0), 0);
        due("HEAD", desk.rule(2, 0), 1);
        due("CHILDREN", desk.rule(0, 1), 1);
        due("CHILDREN", desk.rule(1, 1), 0);
        due("CHILDREN", desk.rule(3, 1), 3);
        due("EQUATIONS", desk.rule(0, 2), 2);
        due("EQUATIONS", desk.rule(1, 2), 1);
        due("EQUATIONS", desk.rule(2, 2), 3);
        due("can come", desk.rule(3, 3), 1);
        due("CHILD 0", desk.rule(3, 10), NONE);
        due("CHILD 1", desk.rule(3, 11), 0);
        due("CHILD 2", desk.rule(3, 12), 1);
        due("CHILD 3", desk.rule(3, 13), 0);
        due("CHILD 4", desk.rule(3, 14), NONE);
        due("CHILD 1 of none", desk.rule(1, 11), NONE);
        for (int what : new int[] {-1, 6, 9, MOST, LEAST}) {
            due("rule others " + what, desk.rule(0, what), NONE);
        }
        for (int r : new int[] {-1, 4, 30, MOST, LEAST}) {
            due("rule " + r, desk.rule(r, 0), NONE);
            due("rule " + r, desk.rule(r, 5), NONE);
            due("rule " + r, desk.rule(r, 11), NONE);
        }
        Tape.grammar(desk, KNUTH);
        due("by plain", desk.rule(0, 4), 1);
        due("by GRAPHS", desk.rule(0, 5), 0);
        due("by plain", desk.rule(1, 4), 0);
        due("no old RULE", desk.rule(3, 0), NONE);
    }

    // Promise 10
    private static void testAnswers() {
        AttributeDesk desk = new AttributeDesk();
        due("test without grammar", desk.test(0), NONE);
        due("test without grammar", desk.test(1), NONE);
        Tape.grammar(desk, KNUTH);
        due("EXACT", desk.test(0), 1);
        due("PLAIN", desk.test(1), 0);
        due("test others", desk.test(2), NONE);
        due("test others", desk.test(-1), NONE);
        due("test others", desk.test(MOST), NONE);
        Tape.grammar(desk, SUM);
        due("EXACT", desk.test(0), 1);
        due("PLAIN", desk.test(1), 1);
        Tape.grammar(desk, "sym S syn v; rule a = S : 0.v = 0.v; end");
        due("on itself", desk.test(0), 0);
        due("on itself", desk.test(1), 0);
        due("on itself", desk.rule(0, 4), 1);
        due("on itself", desk.rule(0, 5), 1);
        Tape.grammar(desk, "sym S syn v syn w; rule a = S : 0.v = if 0 then 0.w else 1; 0.w = 0.v * 0; end");
        due("where if doesn't choose", desk.test(0), 0);
        // Round by two CHILDREN only.
        String two = "sym S syn v; sym X inh i syn s; rule a = S X X : 0.v = 1; 1.i = 2.s; 2.i = 1.s; end ";
        Tape.grammar(desk, two + "rule b = X : 0.s = 0.i; end");
        due("round by two", desk.test(0), 0);
        due("round by two", desk.test(1), 0);
        Tape.grammar(desk, two + "rule b = X : 0.s = 1; end");
        due("not round by two", desk.test(0), 1);
        due("not round by two", desk.test(1), 1);
    }

    /** A symbol X with three inherited and two synthesized attributes and a RULE for each of so many graphs. */
    private static String graphs(int count) {
        StringBuilder text = new StringBuilder();
        String[] from = {"a", "b", "c"};
        for (int g = 0; g < count; g++) {
            text.append("rule g").append(letter(g / 8)).append(letter(g % 8)).append("=X:");
            for (int s = 0; s < 2; s++) {
                text.append("0.").append(s == 0 ? "s" : "t").append("=1");
                for (int i = 0; i < 3; i++) {
                    if ((g >> (i * 2 + s) & 1) != 0) {
                        text.append("+0.").append(from[i]);
                    }
                }
                text.append(';');
            }
            text.append("end ");
        }
        return text.toString();
    }

    private static void tooLarge() {
        String symbols = "sym S syn v;sym X inh a inh b inh c syn s syn t;";
        String three = "0.v=1;1.a=1;1.b=1;1.c=1;2.a=1;2.b=1;2.c=1;3.a=1;3.b=1;3.c=1;end ";
        AttributeDesk desk = new AttributeDesk();
        Tape.grammar(desk, symbols + "rule r=S X X X:" + three + graphs(12));
        due("1,728 are not TOO LARGE", desk.symbol(1, 2), 12);
        due("GRAPHS", desk.graph(1, 11), 11);
        due("EXACT", desk.test(0), 1);
        Tape.grammar(desk, symbols + "rule r=S X X X:" + three + graphs(13));
        due("2,197 are TOO LARGE", desk.symbol(1, 2), -2);
        due("of all", desk.symbol(0, 2), -2);
        due("but of none other", desk.symbol(2, 2), NONE);
        due("no graph", desk.graph(1, 0), NONE);
        due("no graph", desk.graph(0, 0), NONE);
        due("no way told", desk.rule(0, 5), -2);
        due("no way told", desk.rule(13, 5), -2);
        due("no such RULE", desk.rule(14, 5), NONE);
        due("EXACT", desk.test(0), -2);
        due("PLAIN", desk.test(1), 1);
        due("plain graph", desk.symbol(1, 3), 15);
        due("can come", desk.rule(13, 3), 1);
        due("plain way", desk.rule(13, 4), 0);
        // Also by a RULE that no TREE of the first symbol has.
        Tape.grammar(desk, symbols + "sym T syn v;rule r=S:0.v=1;end rule q=T X X X:" + three + graphs(13));
        due("TOO LARGE aside", desk.symbol(0, 2), -2);
        due("TOO LARGE aside", desk.test(0), -2);
        due("can't come", desk.rule(1, 3), 0);
        // 0 times 13 times 13 is not above 2,000.
        Tape.grammar(desk, symbols + "sym T;rule r=S T X X:0.v=1;2.a=1;2.b=1;2.c=1;3.a=1;3.b=1;3.c=1;end " + graphs(20));
        due("one has none", desk.symbol(1, 2), 20);
        due("one has none", desk.symbol(0, 2), 0);
        due("a fine grammar behind it", Tape.grammar(desk, SUM), 3);
        due("GRAPHS", desk.symbol(1, 2), 1);
        due("EXACT", desk.test(0), 1);
    }

    private static int leafCount = 0;

    /** A RULE whose HEAD has the graph, by what stands in it alone or behind that of its CHILD, the same symbol. */
    private static String ruleOfGraph(String symbol, int graph, boolean hasChild) {
        StringBuilder text = new StringBuilder("rule n").append(letter(leafCount / 8)).append(letter(leafCount % 8));
        leafCount++;
        text.append('=').append(symbol).append(hasChild ? " " + symbol : "").append(':');
        for (int s = 0; s < 2; s++) {
            String name = s == 0 ? "s" : "t";
            text.append("0.").append(name).append('=').append(hasChild ? "1." + name : "1");
            for (int i = 0; i < 3; i++) {
                text.append((graph >> (i * 2 + s) & 1) != 0 ? "+0." + letter(i) : "");
            }
            text.append(';');
        }
        return text.append(hasChild ? "1.a=0.a;1.b=0.b;1.c=0.c;" : "").append("end ").toString();
    }

    /** RULES of so many GRAPHS: four of each leaf by the two that add, but fewer of those that have some already. */
    private static String rulesOfGraphs(String symbol, int leaves, int... more) {
        StringBuilder text = new StringBuilder();
        for (int graph = 0; graph < leaves; graph++) {
            text.append(ruleOfGraph(symbol, graph, false));
        }
        for (int graph : more) {
            text.append(ruleOfGraph(symbol, graph, false));
        }
        return text.append(ruleOfGraph(symbol, 16, true)).append(ruleOfGraph(symbol, 32, true)).toString();
    }

    private static void choiceLimit() {
        String all = "";
        for (String symbol : new String[] {"X", "Y", "Z"}) {
            all += "sym " + symbol + " inh a inh b inh c syn s syn t;";
        }
        String start = "sym S syn v;" + all + "rule r=S X Y Z:0.v=1;";
        for (int k = 1; k <= 3; k++) {
            start += k + ".a=1;" + k + ".b=1;" + k + ".c=1;";
        }
        leafCount = 0;
        String two = start + "end " + rulesOfGraphs("X", 6, 48 + 6) + rulesOfGraphs("Y", 5) + rulesOfGraphs("Z", 1);
        AttributeDesk desk = new AttributeDesk();
        due("grammar", Tape.grammar(desk, two), 1 + 9 + 7 + 3);
        due("X's GRAPHS", desk.symbol(1, 2), 25);
        due("Y's GRAPHS", desk.symbol(2, 2), 20);
        due("Z's GRAPHS", desk.symbol(3, 2), 4);
        due("2,000 are not above 2,000", desk.test(0), 1);
        leafCount = 0;
        // 28 + 1, 20 + 2 + 1 and 3.
        String three = start + "end " + rulesOfGraphs("X", 7, 48 + 7) + rulesOfGraphs("Y", 5, 16 + 5, 48 + 6)
                + ruleOfGraph("Z", 0, false) + ruleOfGraph("Z", 1, false) + ruleOfGraph("Z", 2, false);
        due("grammar", Tape.grammar(desk, three), 1 + 10 + 9 + 3);
        due("2,001 are", desk.test(0), -2);
        due("2,001 are", desk.symbol(3, 2), -2);
    }

    private static void fullGrammar() {
        StringBuilder text = new StringBuilder("sym a syn a syn b syn c syn d syn e syn f;");
        for (int s = 1; s < 12; s++) {
            text.append("sym ").append(letter(s)).append(" inh a inh b inh c syn d syn e syn f;");
        }
        String own = "0.a=1;0.b=1;0.c=1;0.d=1;0.e=1;0.f=own;";
        text.append("rule r=a l l l:0.a=1.d+2.e+3.f;0.b=1;0.c=1;0.d=1;0.e=1;0.f=own;");
        text.append("1.a=1;1.b=1;1.c=1;2.a=1;2.b=2;2.c=3;3.a=1;3.b=1;3.c=1;end ");
        text.append("rule leaf=l:0.d=0.a+0.b+0.c;0.e=0.a+0.b+0.c;0.f=0.a+0.b+0.c;end ");
        for (int r = 2; r < 30; r++) {
            text.append("rule r").append(letter(r / 8)).append(letter(r % 8)).append("=a:").append(own).append("end ");
        }
        AttributeDesk desk = new AttributeDesk();
        due("grammar", Tape.grammar(desk, text.toString().replace("+ ", "+")), 30);
        due("EXACT", desk.test(0), 1);
        due("PLAIN", desk.test(1), 1);
        due("all bits", desk.graph(11, 0), 511);
        due("all bits", desk.symbol(11, 3), 511);
        for (int what = -1; what < 110; what++) {
            due("symbol 12", desk.symbol(12, what), NONE);
            due("rule 30", desk.rule(30, what), NONE);
        }
        due("graph 12", desk.graph(12, 0), NONE);
        due("last RULE", desk.rule(29, 2), 6);
        due("tree", Tape.tree(desk, "(r(leaf)(leaf)(leaf))"), 4);
        due("demand", desk.demand(0, 0), 0);
        due("value", desk.value(0, 0, 1), 3 + 6 + 3);
    }

    /** A small grammar behind a large one has nothing of it. */
    private static void leftOvers() {
        AttributeDesk desk = new AttributeDesk();
        Tape.grammar(desk, "sym S syn v; sym X inh i syn s; rule a = S : 0.v = 1; end "
                + "rule b = S X : 0.v = 1; 1.i = 1.s; end rule c = X : 0.s = 0.i; end");
        due("EXACT", desk.test(0), 0);
        due("PLAIN", desk.test(1), 0);
        due("GRAPHS", desk.graph(1, 0), 1);
        Tape.grammar(desk, "sym S syn v; sym X; rule a = S : 0.v = 1; end");
        due("EXACT", desk.test(0), 1);
        due("PLAIN", desk.test(1), 1);
        due("no GRAPHS", desk.symbol(1, 2), 0);
        due("no plain", desk.symbol(1, 3), 0);
        due("no second RULE", desk.rule(1, 4), NONE);
        Tape.grammar(desk, "sym S syn v; sym X inh i syn s; rule a = S : 0.v = 1; end "
                + "rule b = S X : 0.v = 1; 1.i = 1.s; end rule c = X : 0.s = 2; end");
        due("EXACT", desk.test(0), 1);
        due("PLAIN", desk.test(1), 1);
        due("GRAPHS", desk.graph(1, 0), 0);
        due("one of them", desk.symbol(1, 2), 1);
        due("no plain", desk.symbol(1, 3), 0);
    }

    private static void unproductive() {
        AttributeDesk desk = new AttributeDesk();
        // No TREE of X ends; Y stands in none of S.
        Tape.grammar(desk, "sym S syn v; sym X inh i syn s; sym Y inh i syn s; "
                + "rule a = S : 0.v = 1; end rule b = S X : 0.v = 1.s; 1.i = 1.s; end "
                + "rule c = X X : 0.s = 0.i; 1.i = 1; end rule d = Y : 0.s = 0.s + 0.i; end "
                + "rule e = S X : 0.v = 0.v; 1.i = 1; end");
        due("X has none", desk.symbol(1, 2), 0);
        due("X has none", desk.graph(1, 0), NONE);
        due("Y has one", desk.symbol(2, 2), 1);
        due("Y's goes round", desk.graph(2, 0), 1);
        due("a can come", desk.rule(0, 3), 1);
        due("b can't", desk.rule(1, 3), 0);
        due("c can't", desk.rule(2, 3), 0);
        due("d can't", desk.rule(3, 3), 0);
        due("b by plain: all RULES count", desk.rule(1, 4), 1);
        due("X's plain", desk.symbol(1, 3), 1);
        due("b by GRAPHS: X has none", desk.rule(1, 5), 0);
        due("e by GRAPHS: X has none", desk.rule(4, 5), 0);
        due("e by plain", desk.rule(4, 4), 1);
        due("d by GRAPHS", desk.rule(3, 5), 1);
        due("EXACT", desk.test(0), 1);
        due("PLAIN", desk.test(1), 0);
        Tape.grammar(desk, "sym S; rule a = S S : end");
        due("the first has no TREE", desk.test(0), 1);
        due("the first has no TREE", desk.symbol(0, 2), 0);
        due("its RULE can't come", desk.rule(0, 3), 0);
        // Reached by a RULE that can't come only.
        Tape.grammar(desk, "sym S; sym T; sym U syn v; rule a = S : end rule b = S T U : end "
                + "rule c = U : 0.v = 0.v; end");
        due("U isn't reached", desk.rule(2, 3), 0);
        due("no TREE goes round", desk.test(0), 1);
        // The RULES of what is reached stand ahead of those that reach it.
        Tape.grammar(desk, "sym A; sym B; sym C; sym D; rule d = D : end rule c = C D : end rule b = B C : end "
                + "rule a = A B : end");
        for (int r = 0; r < 4; r++) {
            due("reached against the order", desk.rule(r, 3), 1);
        }
    }

    // Promise 11
    private static void nodeAnswers() {
        AttributeDesk desk = deskOf(SUM, "(top 9 (two (one 5) (two 1 (one 0) (one 2147483647))))");
        int[][] nodes = {{0, NONE, 0, 9, 0}, {2, 0, 1, 0, 1}, {1, 1, 1, 5, 1}, {2, 1, 2, 1, 1}, {1, 3, 1, 0, 1},
            {1, 3, 2, MOST, 1}};
        for (int n = 0; n < nodes.length; n++) {
            for (int what = 0; what < 5; what++) {
                due("node " + n + " " + what, desk.node(n, what), nodes[n][what]);
            }
            due("node others", desk.node(n, 5), NONE);
            due("node others", desk.node(n, -1), NONE);
        }
        for (int n : new int[] {-1, 6, 200, MOST, LEAST}) {
            due("node " + n, desk.node(n, 0), NONE);
        }
    }

    // Promise 12
    private static void ownAnswers() {
        AttributeDesk desk = deskOf(SUM, "(top (one 5))");
        due("own", desk.own(1, -7), true);
        due("OWN", desk.node(1, 3), -7);
        desk.demand(0, 0);
        due("value", desk.value(0, 0, 1), -7);
        due("no NODE", desk.own(2, 1), false);
        due("no NODE", desk.own(-1, 1), false);
        due("no NODE", desk.own(MOST, 1), false);
        due("nothing is forgotten", desk.about(4), 3);
        due("the same again", desk.own(1, -7), true);
        due("no OWN changes", desk.about(4), 3);
        due("own", desk.own(1, LEAST), true);
        due("all is forgotten", desk.about(4), 0);
        due("all is forgotten", desk.value(0, 0, 0), NONE);
        due("all is forgotten", desk.value(0, 0, 1), 0);
        due("all is forgotten", desk.order(0), NONE);
        desk.demand(0, 0);
        due("value", desk.value(0, 0, 1), LEAST);
        // An OWN that no EQUATION names changes too.
        due("own of the root", desk.own(0, 1), true);
        due("all is forgotten", desk.about(4), 0);
        desk.demand(0, 0);
        due("others stay", desk.value(0, 0, 1), LEAST);
    }

    // Promise 13
    private static void demandAnswers() {
        AttributeDesk desk = deskOf("sym S syn v syn w; sym X inh i syn s; rule a = S X : 0.v = 1.s / own; 0.w = 1.s; "
                + "1.i = own * 2; end rule x = X : 0.s = 0.i + own; end", "(a (x 3))");
        due("BAD", desk.demand(0, 0), 1);
        due("BAD again", desk.demand(0, 0), 1);
        due("a number", desk.demand(0, 1), 0);
        due("a number", desk.demand(1, 0), 0);
        desk.own(0, 10);
        due("a number", desk.demand(0, 0), 0);
        due("own of the NODE above", desk.value(1, 0, 1), 20);
        due("own of the NODE", desk.value(1, 1, 1), 23);
        due("value", desk.value(0, 0, 1), 2);
        due("demand others", desk.demand(0, 2), NONE);
        due("demand others", desk.demand(0, -1), NONE);
        due("demand others", desk.demand(1, 2), NONE);
        due("demand others", desk.demand(2, 0), NONE);
        due("demand others", desk.demand(-1, 0), NONE);
        due("demand others", desk.demand(MOST, 0), NONE);
        due("demand others", desk.demand(0, MOST), NONE);
        due("demand others", desk.demand(0, LEAST), NONE);
        due("not worked out by these", desk.about(4), 3);
    }

    private static void goesRound() {
        AttributeDesk desk = deskOf("sym S syn a syn b syn c syn d syn e; "
                + "rule r = S : 0.a = 0.b + 0.c + 0.d; 0.b = 1; 0.c = 0.e + 0.a; 0.d = 4; 0.e = 0.b / 0; end", "(r)");
        due("GOES ROUND", desk.demand(0, 0), 2);
        due("worked out ahead", desk.about(4), 2);
        due("first", desk.order(0), 1);
        due("second", desk.order(1), 4);
        due("it isn't", desk.value(0, 0, 0), NONE);
        due("nor is its number", desk.value(0, 0, 1), 0);
        due("nor what came behind", desk.value(0, 3, 0), NONE);
        due("what is ahead stays", desk.value(0, 4, 0), 1);
        due("again", desk.demand(0, 0), 2);
        due("nothing more", desk.about(4), 2);
        due("another on the way", desk.demand(0, 2), 2);
        due("nothing but what is ahead", desk.about(4), 2);
        due("beside it", desk.demand(0, 3), 0);
        due("behind it", desk.order(2), 3);
        due("on its own way only", desk.demand(0, 1), 0);
        desk = deskOf("sym S syn a syn b syn c syn d; rule r = S : 0.a = 0.c + 0.b; 0.b = 0.b; 0.c = 0.d; 0.d = own; end",
                "(r 3)");
        due("what hangs on a way round", desk.demand(0, 0), 2);
        due("worked out ahead", desk.about(4), 2);
        due("two ways to one are no way round", desk.demand(0, 2), 0);
        due("itself", desk.demand(0, 1), 2);
        desk.own(0, 4);
        due("forgotten", desk.about(4), 0);
        due("c", desk.demand(0, 2), 0);
        due("value", desk.value(0, 2, 1), 4);
    }

    // Promise 14, and VALUES
    private static void values() {
        AttributeDesk desk = deskOf(SUM, "(top (one 5))");
        due("not worked out", desk.value(0, 0, 0), NONE);
        due("its number", desk.value(0, 0, 1), 0);
        due("not demanded", desk.about(4), 0);
        desk.demand(0, 0);
        due("a number", desk.value(0, 0, 0), 0);
        due("its number", desk.value(0, 0, 1), 5);
        due("value others", desk.value(0, 0, 2), NONE);
        due("value others", desk.value(0, 0, -1), NONE);
        due("value others", desk.value(0, 1, 0), NONE);
        due("value others", desk.value(0, -1, 1), NONE);
        due("value others", desk.value(2, 0, 1), NONE);
        due("value others", desk.value(-1, 0, 0), NONE);
        due("value others", desk.value(MOST, MOST, 1), NONE);
        comesTo("2 + 3 * 4", 0, 14);
        comesTo("2 * 3 + 4", 0, 10);
        comesTo("10 - 4 - 3", 0, 3);
        comesTo("10 - (4 - 3)", 0, 9);
        comesTo("100 / 7 / 2", 0, 7);
        comesTo("100 / 7 * 2", 0, 28);
        comesTo("2 * 100 % 7", 0, 4);
        comesTo("- 7 / 2", 0, -3);
        comesTo("- 7 % 2", 0, -1);
        comesTo("7 % - 2", 0, 1);
        comesTo("- 2 * 3 - - 4", 0, -2);
        comesTo("- (2 + 3)", 0, -5);
        comesTo("2 < 3", 0, 1);
        comesTo("3 < 3", 0, 0);
        comesTo("3 = 3", 0, 1);
        comesTo("3 = 4", 0, 0);
        comesTo("1 + 2 = 3", 0, 1);
        comesTo("1 < 1 + 1", 0, 1);
        comesTo("(1 < 2) + 5 = 6", 0, 1);
        comesTo("own * own", 0, 25);
        comesTo("0.w + 1.s * 1.i", 0, 56);
        comesTo("2147483647 + 1", 0, LEAST);
        comesTo("- 2147483647 - 2", 0, MOST);
        comesTo("2147483647 * 2", 0, -2);
        comesTo("(- 2147483647 - 1) / - 1", 0, LEAST);
        comesTo("(- 2147483647 - 1) % - 1", 0, 0);
        comesTo("- (- 2147483647 - 1)", 0, LEAST);
        comesTo("- 2147483647 - 1 < 2147483647", 0, 1);
        comesTo("if 1 then 2 else 3", 0, 2);
        comesTo("if 0 then 2 else 3", 0, 3);
        comesTo("if - 1 then 2 else 3", 0, 2);
        comesTo("if 0 then 1 else 2 + 3", 0, 5);
        comesTo("if 1 then 1 else 2 + 3", 0, 1);
        comesTo("if if 0 then 1 else 0 then 2 else if 4 then 5 else 6", 0, 5);
        comesTo("(if 1 then 2 else 3) * 10", 0, 20);
        comesTo("if 1 then if 0 then 1 else 2 else 3", 0, 2);
        comesTo("(1 + 2) * (3 + 4) - own", 0, 16);
    }

    private static void badValues() {
        comesTo("1 / 0", 1, 0);
        comesTo("1 % 0", 1, 0);
        comesTo("0 / 0", 1, 0);
        comesTo("1 / (own - 5)", 1, 0);
        comesTo("5 + 1 / 0", 1, 0);
        comesTo("1 / 0 * 0", 1, 0);
        comesTo("- (1 / 0)", 1, 0);
        comesTo("1 % 0 < 2", 1, 0);
        comesTo("2 = 1 / 0", 1, 0);
        comesTo("1 / (1 % 0)", 1, 0);
        comesTo("if 1 / 0 then 2 else 3", 1, 0);
        comesTo("if 1 then 1 / 0 else 3", 1, 0);
        comesTo("if 0 then 3 else 1 / 0", 1, 0);
        comesTo("if 0 then 1 / 0 else 3", 0, 3);
        comesTo("if 1 then 3 else 1 / 0", 0, 3);
        comesTo("(if 1 then 3 else 1 / 0) + 4", 0, 7);
        AttributeDesk desk = deskOf("sym S syn v syn w syn x; rule a = S : 0.v = 1 / own; 0.w = 0.v + 1; "
                + "0.x = if own then 0.w else 8; end", "(a)");
        due("BAD by a part", desk.demand(0, 1), 1);
        due("its number", desk.value(0, 1, 1), 0);
        due("not chosen", desk.demand(0, 2), 0);
        due("its number", desk.value(0, 2, 1), 8);
        desk.own(0, 1);
        due("chosen", desk.demand(0, 2), 0);
        due("its number", desk.value(0, 2, 1), 2);
        due("no longer BAD", desk.value(0, 0, 0), 0);
    }

    // Promise 15
    private static void orderAnswers() {
        AttributeDesk desk = deskOf("sym S syn a syn b syn c syn d; "
                + "rule r = S : 0.a = if 0.d then 0.c else 0.b + 0.d; 0.b = 1; 0.c = 0.b; 0.d = 3; end", "(r)");
        due("none yet", desk.order(0), NONE);
        desk.demand(0, 0);
        int[] order = {3, 1, 2, 0};
        for (int i = 0; i < order.length; i++) {
            due("order " + i, desk.order(i), order[i]);
        }
        due("order others", desk.order(4), NONE);
        due("order others", desk.order(-1), NONE);
        due("order others", desk.order(MOST), NONE);
        due("order others", desk.order(LEAST), NONE);
        desk.demand(0, 0);
        due("once each", desk.about(4), 4);
        due("a new TREE", Tape.tree(desk, "(r)"), 1);
        due("none since", desk.order(0), NONE);
        desk.demand(0, 2);
        desk.demand(0, 0);
        int[] after = {1, 2, 3, 0};
        for (int i = 0; i < after.length; i++) {
            due("order " + i, desk.order(i), after[i]);
        }
        due("6 times its NODE", deskOfSum().order(1), 12);
    }

    private static AttributeDesk deskOfSum() {
        AttributeDesk desk = deskOf(SUM, "(top (two (one 5) (one 7)))");
        desk.demand(0, 0);
        return desk;
    }

    private static void deepestTree() {
        // Down and up again through 40 NODES, six attributes each: the longest way that a chain has.
        StringBuilder text = new StringBuilder("sym S syn v;sym X inh a inh b inh c syn s syn t syn u;");
        text.append("rule r=S X:0.v=1.u;1.a=1;1.b=1.s;1.c=1.t;end ");
        text.append("rule m=X X:1.a=0.a+1;1.b=0.b+1;1.c=0.c+1;0.s=1.s+1;0.t=1.t+1;0.u=1.u+1;end ");
        text.append("rule l=X:0.s=0.a;0.t=0.b;0.u=0.c;end");
        String tree = "(r" + times("(m", 38) + "(l" + times(")", 40);
        AttributeDesk desk = deskOf(text.toString(), tree);
        due("EXACT", desk.test(0), 1);
        due("PLAIN", desk.test(1), 1);
        due("demand", desk.demand(0, 0), 0);
        due("all are worked out", desk.about(4), 1 + 39 * 6);
        due("value", desk.value(0, 0, 1), 1 + 38 * 6);
        due("the first", desk.order(0), 6);
        due("the last", desk.order(39 * 6), 0);
    }

    /** The NODES of nest(), of which each leaf has the OWN 1. */
    private static String nestOfOnes(int count) {
        return nest(count).replace("(l)", "(l 1)");
    }

    /** 200 NODES of six attributes. */
    private static void fullTree() {
        StringBuilder text = new StringBuilder("sym S syn a syn b syn c syn d syn e syn f;");
        String[] rules = {"n=S S S S:", "c=S S:", "l=S:"};
        for (int r = 0; r < 3; r++) {
            text.append("rule ").append(rules[r]);
            for (int a = 0; a < 6; a++) {
                text.append("0.").append(letter(a)).append("=own");
                for (int k = 1; k <= new int[] {3, 1, 0}[r]; k++) {
                    text.append('+').append(k).append('.').append(letter(a));
                }
                text.append(';');
            }
            text.append("end ");
        }
        // 1 + 100 + 97 + 2 NODES.
        String tree = "(n" + nestOfOnes(33) + nestOfOnes(32) + "(c(l)))";
        AttributeDesk desk = deskOf(text.toString(), tree);
        due("all NODES", desk.about(3), 200);
        for (int a = 0; a < 6; a++) {
            due("demand " + a, desk.demand(0, a), 0);
        }
        due("all are worked out", desk.about(4), 1200);
        due("the last", desk.order(1199), 5);
        due("none behind", desk.order(1200), NONE);
        due("the sum", desk.value(0, 5, 1), 67 + 65);
        due("own", desk.own(199, 77), true);
        due("all are forgotten", desk.about(4), 0);
        due("no number", desk.value(199, 5, 0), NONE);
        due("again", desk.demand(199, 5), 0);
        due("its number", desk.value(199, 5, 1), 77);
    }

    // Promise 16
    private static void aboutAnswers() {
        AttributeDesk desk = deskOfSum();
        desk.feed(1, 2, 3, 4, 5);
        desk.end(7);
        int[] about = {7, 2, 3, 4, 7};
        for (int what = 0; what < about.length; what++) {
            due("about " + what, desk.about(what), about[what]);
        }
        due("about others", desk.about(5), NONE);
        due("about others", desk.about(-1), NONE);
        due("about others", desk.about(MOST), NONE);
        due("NONE", AttributeDesk.NONE, -1);
    }
}
