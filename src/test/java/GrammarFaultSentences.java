/** The sentences of I. GRAMMARS on FAULTS. */
final class GrammarFaultSentences extends Checks {
    private static final String BOTH = "sym S syn v;sym X inh i inh j syn s syn t;";
    private static final String LEAF = "rule x=X:0.s=0.i;0.t=0.j;end ";

    static void tell(Sentences all) {
        all.part("==== I. GRAMMARS:");
        all.hold("FAULTS, the first as TOKENS are come to,", GrammarFaultSentences::firstOfSeveral);
        all.hold("at the TOKEN (the end is one, at the length);", GrammarFaultSentences::atTheToken);
        all.hold("of one TOKEN the least:", GrammarFaultSentences::leastOfOneToken);
        all.hold("1 it can't stand there, or is none (also a NAME of more letters).", GrammarFaultSentences::one);
        all.hold("2 a NAME of a symbol, of a rule, of an attribute of its symbol, for the second time.",
                GrammarFaultSentences::two);
        all.hold("3 a NAME behind rule .. = that is no symbol's;", GrammarFaultSentences::threeBehindRule);
        all.hold("of an OCC (a first NUMBER of an EQUATION; in an E one with . behind it): there is no such CHILD (at its "
                + "NUMBER),", GrammarFaultSentences::threeOfChild);
        all.hold("or the symbol that stands there has no such attribute (at its NAME).",
                GrammarFaultSentences::threeOfAttribute);
        all.hold("4 too many: the 13th symbol,", GrammarFaultSentences::thirteenthSymbol);
        all.hold("31st rule (at its NAME),", GrammarFaultSentences::thirtyFirstRule);
        all.hold("7th attribute of a symbol (at its NAME),", GrammarFaultSentences::seventhAttribute);
        all.hold("4th CHILD,", GrammarFaultSentences::fourthChild);
        all.hold("41st TOKEN of an E (at it; those of its OCCS too),", GrammarFaultSentences::fortyFirstToken);
        all.hold("21st ( - if open around one another", GrammarFaultSentences::twentyFirstOpen);
        all.hold("(at it; if is open to the end of its last E,", GrammarFaultSentences::ifIsOpen);
        all.hold("- to that of its U).", GrammarFaultSentences::minusIsOpen);
        all.hold("5 a NUMBER above 2147483647.", GrammarFaultSentences::five);
        all.hold("6 an EQUATION for what it may not tell: of the HEAD what is inherited, of a CHILD what is synthesized "
                + "(at the NAME of its OCC).", GrammarFaultSentences::six);
        all.hold("7 for the second time in its RULE (there).", GrammarFaultSentences::seven);
        all.hold("8 a RULE's end where an EQUATION lacks: of the HEAD's synthesized, of all CHILDREN's inherited "
                + "attributes.", GrammarFaultSentences::eight);
        all.hold("Behind all: 9 the first symbol has an inherited attribute (at the length).", GrammarFaultSentences::nine);
    }

    /** An E of so many TOKENS. */
    private static String ofTokens(int count) {
        return (count % 2 == 0 ? "-1" : "1") + times("+1", (count - 1) / 2);
    }

    private static void firstOfSeveral() {
        // Each text has each of the FAULTS that stand behind the mark, too.
        String rest = "0.v=2147483648;1.s=1;1.i=1;1.i=1;end";
        faultAt("sym S syn v inh |v;sym X inh i syn s;rule a=S X T:" + rest, 2);
        faultAt("sym S syn v;sym X inh i syn s;rule a=S X |T:" + rest, 3);
        faultAt("sym S syn v;sym X inh i syn s;rule a=S X:0.v=|2147483648;1.s=1;1.i=1;1.i=1;end", 5);
        faultAt("sym S syn v;sym X inh i syn s;rule a=S X:0.v=1;1.|s=1;1.i=1;1.i=1;end", 6);
        faultAt("sym S syn v;sym X inh i syn s;rule a=S X:1.i=1;1.|i=1;1.s=1;end", 7);
        faultAt("sym S syn v inh w;sym X inh i syn s;rule a=S X:1.i=1;|end", 8);
        faultAt("sym S inh w;rule a=S:end |x", 1);
        faultAt("sym S;sym |abcdefghi;sym S;rule a=S:end", 1);
        faultAt("sym S;sym |S;sym abcdefghi;rule a=S:end", 2);
        faultIn("2147483647 + |2147483648 + 0.x", 5);
        faultIn("0.|x + 2147483648", 3);
        faultIn(ofTokens(40) + "|+ 2147483648", 4);
    }

    private static void atTheToken() {
        faultAt("sym S; \n |1", 1);
        fault("sym S;rule a=S", 1, 14);
        fault("sym S;rule a=S  \n", 1, 17);
        faultIn("1 +  \n|2147483648", 5);
        faultIn("1 . \n|x", 3);
        // What stands on the tape behind its end is no part of it, though it was fed.
        AttributeDesk desk = new AttributeDesk();
        Tape.put(desk, "sym S syn v;rule a=S:0.v=1;end");
        desk.end(28);
        due("cut", desk.grammar(), NONE);
        due("FAULT at the end", desk.fault(0), 1);
        due("en is no end", desk.fault(1), 27);
        Tape.put(desk, "sym S syn v;rule a=S:0.v=1;end");
        desk.end(25);
        due("cut", desk.grammar(), NONE);
        due("FAULT at the end", desk.fault(0), 1);
        due("the length", desk.fault(1), 25);
        Tape.put(desk, "sym S syn v;rule a=S:0.v=1.v;end");
        desk.end(26);
        due("cut ahead of a . that would make it an OCC of no CHILD", desk.grammar(), NONE);
        due("FAULT at the end", desk.fault(0), 1);
        due("the length", desk.fault(1), 26);
        Tape.put(desk, "sym S;rule a=S:endx");
        desk.end(18);
        due("cut behind end", desk.grammar(), 1);
    }

    private static void leastOfOneToken() {
        String symbols = "";
        for (int i = 0; i < 12; i++) {
            symbols += "sym " + letter(i) + ";";
        }
        // 1 and 4, 2 and 4: what is too many and can't stand there, or comes for the second time.
        faultAt(symbols + "sym |end;rule a=a:end", 1);
        faultAt(symbols + "sym |abcdefghi;rule a=a:end", 1);
        faultAt(symbols + "sym |a;rule a=a:end", 2);
        String rules = "sym S;";
        for (int i = 0; i < 30; i++) {
            rules += "rule " + letter(i / 6) + letter(i % 6) + "=S:end ";
        }
        faultAt(rules + "rule |end=S:end", 1);
        faultAt(rules + "rule |ef=S:end", 2);
        faultAt("sym S syn a syn b syn c syn d syn e syn f syn |syn;rule a=S:end", 1);
        faultAt("sym S syn a syn b syn c syn d syn e syn f syn |c;rule a=S:end", 2);
        faultAt("sym S;rule a=S S S S |end:end", 1);
        faultAt("sym S;rule a=S S S S |T:end", 3);
        // 1 and 5: a NUMBER that can't stand there.
        faultAt("sym |2147483648;rule a=S:end", 1);
        faultAt("sym S syn v;rule a=S:0.|2147483648=1;end", 1);
        faultIn("1 |2147483648", 1);
        faultIn("0.|2147483648", 1);
        // 3 and 5: a NUMBER of an OCC.
        faultAt("sym S syn v;rule a=S:|2147483648.v=1;end", 3);
        faultIn("|2147483648.w", 3);
        faultIn("|2147483648 .", 3);
        // 1, 3 and 5 with 4: the 41st TOKEN.
        faultIn(ofTokens(40) + " |1", 1);
        faultIn(ofTokens(40) + " |2147483648", 1);
        faultIn(ofTokens(40) + " |)", 1);
        faultIn(ofTokens(40) + " |then", 1);
        faultIn(ofTokens(40) + " |else", 1);
        faultIn(ofTokens(40) + " |end", 1);
        faultIn(ofTokens(39) + "+|*", 1);
        faultIn(ofTokens(39) + "+|if", 1);
        faultIn(ofTokens(38) + "+0|w", 1);
        faultIn(ofTokens(37) + "+0.|own", 1);
        faultIn(ofTokens(37) + "+0.|x", 3);
        faultIn(ofTokens(39) + "+|2.s", 3);
        faultIn(ofTokens(39) + "+|2147483648.s", 3);
        faultIn(ofTokens(39) + "+|2147483648", 4);
        faultIn(ofTokens(38) + "<1|<", 1);
        // 1 and 4: what can't be opened there.
        faultIn(times("-", 20) + "|if", 1);
        faultIn(times("(", 20) + "|)", 1);
        faultIn(times("(", 20) + "1|(", 1);
        // 1 and 9: an end that can't stand there.
        fault("sym S inh i;rule a=S:", 1, 21);
    }

    private static void one() {
        faultAt("sym S;rule a=S:|?", 1);
        faultAt("sym S;|?rule a=S:end", 1);
        faultAt("sym |abcdefghi;rule a=S:end", 1);
        faultAt("sym S inh |abcdefghi;rule a=S:end", 1);
        faultAt("sym S;rule |abcdefghi=S:end", 1);
        faultAt("sym S;rule a=|abcdefghi:end", 1);
        faultAt("sym S;rule a=S |abcdefghi:end", 1);
        faultAt("sym S syn v;rule a=S:0.|abcdefghi=1;end", 1);
        faultIn("0.|abcdefghi", 1);
        faultIn("|abcdefghi", 1);
        faultAt("|" + times("sym", 200), 1);
        // As many letters as would be a KEYWORD, or a NAME, by their last eight or by their number alone.
        faultAt("|abcdefghsym S;rule a=S:end", 1);
        faultAt("sym S;rule a=|aaaaaaaaS:end", 1);
        faultAt("sym abcdefgh;rule a=|aabcdefgh:end", 1);
        treeFault("sym S;rule abcdefgh=S:end", "(|abcdefghi)", 1);
        treeFault("sym S;rule abcdefgh=S:end", "(|aabcdefgh)", 1);
    }

    private static void two() {
        faultAt("sym S;sym |S;rule a=S:end", 2);
        faultAt("sym S;sym T;sym U;sym |T;rule a=S:end", 2);
        faultAt("sym S;rule a=S:end rule |a=S:end", 2);
        faultAt("sym S;rule a=S:end rule b=S:end rule c=S:end rule |b=S:end", 2);
        faultAt("sym S syn v syn |v;rule a=S:0.v=1;end", 2);
        faultAt("sym S syn v syn w inh |v;rule a=S:0.v=1;end", 2);
        faultAt("sym T;sym S inh v syn |v;rule a=T:end", 2);
        fine("sym S syn v;sym T syn v;rule a=S:0.v=1;end rule b=T:0.v=1;end", 2);
        fine("sym a syn a;rule a=a:0.a=1;end", 1);
        // What an earlier grammar had is no second time.
        AttributeDesk desk = new AttributeDesk();
        for (int i = 0; i < 2; i++) {
            due("again", Tape.grammar(desk, "sym S syn v;rule a=S:0.v=1;end"), 1);
            due("again with FAULT", Tape.grammar(desk, "sym S syn v;rule a=S:0.v=1;"), NONE);
        }
    }

    private static void threeBehindRule() {
        faultAt("sym S;rule a=|T:end", 3);
        faultAt("sym S;rule a=|a:end", 3);
        faultAt("sym S syn v;rule a=|v:end", 3);
        faultAt("sym S;rule a=S |T:end", 3);
        faultAt("sym S;rule a=S S |T:end", 3);
        faultAt("sym S;rule a=S S S |T:end", 3);
        faultAt("sym S;rule a=|s:end", 3);
        fine("sym S;sym T;rule a=T S T S:end", 1);
        // A symbol of an earlier grammar alone.
        AttributeDesk desk = new AttributeDesk();
        due("two symbols", Tape.grammar(desk, "sym S;sym T;rule a=T:end"), 1);
        due("one symbol", Tape.grammar(desk, "sym S;rule a=T:end"), NONE);
        due("FAULT", desk.fault(0), 3);
    }

    private static void threeOfChild() {
        String symbol = "sym S syn v;sym X inh i;";
        faultAt(symbol + "rule a=S:|1.i=1;end", 3);
        faultAt(symbol + "rule a=S X:|2.i=1;end", 3);
        faultAt(symbol + "rule a=S X X X:|4.i=1;end", 3);
        fine(symbol + "rule a=S X X X:3.i=1;2.i=1;1.i=1;0.v=1;end", 1);
        faultAt(symbol + "rule a=S X:|2:end", 3);
        faultAt(symbol + "rule a=S X:|4294967296.v=1;end", 3);
        faultAt(symbol + "rule a=S X:|4294967297.i=1;end", 3);
        faultAt(symbol + "rule a=S X:|18446744073709551617.i=1;end", 3);
        faultAt(symbol + "rule a=S X:1.i=|2.i;end", 3);
        faultIn("|2.s", 3);
        faultIn("1 + |3\n.s", 3);
        faultIn("|2.", 3);
        faultIn("|2 . 5", 3);
        faultIn("|4294967297.s", 3);
        faultIn("|18446744073709551617.s", 3);
        fineIn("1.s");
        fineIn("2");
        faultIn("2 |s", 1);
    }

    private static void threeOfAttribute() {
        faultAt("sym S syn v;rule a=S:0.|w=1;end", 3);
        faultAt("sym S syn v;rule a=S:0.|S=1;end", 3);
        faultAt(BOTH + LEAF + "rule a=S X:0.|i=1;end", 3);
        faultAt(BOTH + LEAF + "rule a=S X:1.|v=1;end", 3);
        faultAt(BOTH + LEAF + "rule a=X S:1.|i=1;end", 3);
        faultAt("sym S;rule a=S:0.|v=1;end", 3);
        faultIn("0.|s", 3);
        faultIn("1.|v", 3);
        faultIn("1.|w", 3);
        faultIn("0.|W", 3);
        fineIn("0.v + 0.w + 1.i + 1.s");
        // An attribute of an earlier grammar alone.
        AttributeDesk desk = new AttributeDesk();
        due("two attributes", Tape.grammar(desk, "sym S syn v syn w;rule a=S:0.v=1;0.w=1;end"), 1);
        due("one attribute", Tape.grammar(desk, "sym S syn v;rule a=S:0.v=0.w;end"), NONE);
        due("FAULT", desk.fault(0), 3);
    }

    private static void thirteenthSymbol() {
        String symbols = "";
        for (int i = 0; i < 11; i++) {
            symbols += "sym " + letter(i) + ";";
        }
        fine(symbols + "rule a=k:end", 1);
        fine(symbols + "sym l;rule a=l:end", 1);
        faultAt(symbols + "sym l;sym |m;rule a=m:end", 4);
        faultAt(symbols + "sym l;sym |m", 4);
        faultAt(symbols + "sym l;sym |;", 1);
        AttributeDesk desk = new AttributeDesk();
        Tape.grammar(desk, symbols + "sym l syn v;rule a=l:0.v=1;end");
        due("12 symbols", desk.about(1), 12);
        due("the 12th", desk.symbol(11, 0), 1);
        due("no 13th", desk.symbol(12, 0), NONE);
    }

    private static void thirtyFirstRule() {
        String rules = "sym S;";
        for (int i = 0; i < 29; i++) {
            rules += "rule " + letter(i / 6) + letter(i % 6) + "=S:end ";
        }
        fine(rules, 29);
        fine(rules + "rule x=S S S S:end", 30);
        faultAt(rules + "rule x=S:end rule |y=S:end", 4);
        faultAt(rules + "rule x=S:end rule |y", 4);
        faultAt(rules + "rule x=S:end rule |=S:end", 1);
        AttributeDesk desk = new AttributeDesk();
        Tape.grammar(desk, rules + "rule x=S S S S:end");
        due("30 RULES", desk.about(2), 30);
        due("the 30th", desk.rule(29, 1), 3);
        due("no 31st", desk.rule(30, 1), NONE);
        due("a TREE by the 30th", Tape.tree(desk, "(x(aa)(ee)(ed))"), 4);
    }

    private static void seventhAttribute() {
        String five = "sym T;sym S inh a syn b inh c syn d inh e";
        fine(five + ";rule a=T:end", 1);
        fine(five + " syn f;rule a=T:end", 1);
        faultAt(five + " syn f syn |g;rule a=T:end", 4);
        faultAt(five + " syn f inh |g;rule a=T:end", 4);
        faultAt(five + " syn f inh |g", 4);
        faultAt(five + " syn f inh |;rule a=T:end", 1);
        fine(five + " syn f;sym U inh a syn b inh c syn d inh e syn f;rule a=T:end", 1);
        faultAt("sym S syn a syn b syn c syn d syn e syn f syn |g;rule a=S:end", 4);
        faultAt("sym T;sym S inh a inh b inh c inh d inh e inh f inh |g;rule a=T:end", 4);
        AttributeDesk desk = new AttributeDesk();
        Tape.grammar(desk, five + " syn f;rule a=T:end");
        due("six", desk.symbol(1, 0), 6);
        due("the sixth", desk.symbol(1, 105), 0);
        due("no seventh", desk.symbol(1, 106), NONE);
    }

    private static void fourthChild() {
        fine("sym S;rule a=S S S S:end", 1);
        faultAt("sym S;rule a=S S S S |S:end", 4);
        faultAt("sym S;rule a=S S S S |S", 4);
        faultAt("sym S;rule a=S S S S |S S:end", 4);
        faultAt("sym S;rule a=S:end rule b=S S S S |S:end", 4);
        AttributeDesk desk = new AttributeDesk();
        Tape.grammar(desk, "sym S;rule a=S S S S:end");
        due("three", desk.rule(0, 1), 3);
        due("the third", desk.rule(0, 13), 0);
        due("no fourth", desk.rule(0, 14), NONE);
    }

    private static void fortyFirstToken() {
        fineIn(ofTokens(39));
        fineIn(ofTokens(40));
        faultIn(ofTokens(39) + "+|1", 4);
        faultIn(ofTokens(39) + "+|own", 4);
        faultIn(ofTokens(39) + "+|(1)", 4);
        faultIn(ofTokens(39) + "+|-1", 4);
        faultIn("(" + ofTokens(39) + "|)", 4);
        fineIn("(" + ofTokens(38) + ")");
        for (String sign : new String[] {"+", "-", "*", "/", "%", "<", "="}) {
            faultIn(ofTokens(40) + "|" + sign + "1", 4);
            faultIn(ofTokens(39) + sign + "|1", 4);
            fineIn(ofTokens(38) + sign + "1");
        }
        faultIn(ofTokens(38) + "+(|if 1 then 2 else 3)", 4);
        faultIn(ofTokens(37) + "+(if |1 then 2 else 3)", 4);
        faultIn("if " + ofTokens(39) + " |then 2 else 3", 4);
        faultIn("if " + ofTokens(38) + " then |2 else 3", 4);
        faultIn("if 1 then " + ofTokens(37) + " |else 3", 4);
        faultIn("if 1 then " + ofTokens(36) + " else |3", 4);
        fineIn("if 1 then " + ofTokens(35) + " else 3");
        faultIn("if 1 then 2 else " + ofTokens(35) + "|+1", 4);
        // Those of its OCCS: NUMBER, . and NAME.
        faultIn(ofTokens(39) + "+|0.w", 4);
        faultIn(ofTokens(38) + "+0|.w", 4);
        faultIn(ofTokens(37) + "+0.|w", 4);
        fineIn(ofTokens(36) + "+0.w");
        fineIn("0.w" + times("+1.s", 9));
        faultIn("-0.w" + times("+1.s", 9) + "|+1", 4);
        // Neither the OCC ahead of = nor the ; is one of the E, and each E counts its own.
        fine("sym S syn v syn w;rule a=S:0.v=" + ofTokens(40) + ";0.w=" + ofTokens(40) + ";end rule b=S:0.w="
                + ofTokens(40) + ";0.v=" + ofTokens(40) + ";end", 2);
        faultIn(ofTokens(40) + "|+1;", 4);
        comesTo(ofTokens(40), 0, 18);
    }

    private static void twentyFirstOpen() {
        fineIn(times("(", 19) + "1" + times(")", 19));
        fineIn(times("-", 20) + "1");
        fineIn(times("(-", 9) + "--1" + times(")", 9));
        // Twenty that can be closed are more than 40 TOKENS, but the 20th itself is none too many.
        faultIn(times("(", 20) + "|)", 1);
        faultIn(times("if ", 20) + "|then", 1);
        for (String open : new String[] {"(", "-", "if "}) {
            faultIn(times("(", 20) + "|" + open, 4);
            faultIn(times("if ", 20) + "|" + open, 4);
            faultIn(times("if (", 10) + "|" + open, 4);
            faultIn(times("if ", 10) + times("(", 10) + "|" + open, 4);
        }
        for (String open : new String[] {"(", "-"}) {
            faultIn(times("-", 20) + "|" + open + "1", 4);
            faultIn(times("(-", 10) + "|" + open + "1", 4);
            faultIn("if " + times("-", 19) + "|" + open + "1", 4);
        }
        faultIn("1+" + times("(", 20) + "|(1", 4);
        faultIn("1*-" + times("(", 19) + "|(1", 4);
        // Only around one another, and a - of an S is none of them.
        fineIn(times("-", 20) + "1+" + times("-", 17) + "1");
        fineIn("1" + times("-1", 19));
        fineIn("(1)" + times("+(1)", 9));
        fineIn("(((((((((1)))))))))+(((((((((1)))))))))");
        fineIn("(((((1)))))" + "-" + times("-", 20) + "1");
        faultIn("(((((1)))))" + "-" + times("-", 20) + "|-1", 4);
        faultIn("(((((1)))))" + "-" + times("(", 20) + "|(1", 4);
        // What binds two parts opens nothing, and closes nothing.
        for (String sign : new String[] {"+", "-", "*", "/", "%", "<", "="}) {
            fineIn("(1" + sign + "1)+" + times("-", 20) + "1");
            faultIn("(1" + sign + "1)+" + times("-", 20) + "|-1", 4);
            faultIn("if 1" + sign + "1 then " + times("-", 19) + "|-1 else 2", 4);
            faultIn("if 1 then 1" + sign + "1 else " + times("-", 19) + "|-1", 4);
        }
        faultIn("(1+1-1+" + times("-", 19) + "|-1)", 4);
        faultIn("(1*1/1%" + times("-", 19) + "|-1)", 4);
        faultIn("(1*1+1<" + times("-", 19) + "|-1)", 4);
        // Each E counts its own, also behind one that had a FAULT with all open.
        fine("sym S syn v syn w;rule a=S:0.v=" + times("-", 20) + "1;0.w=" + times("-", 20) + "1;end", 1);
        AttributeDesk desk = new AttributeDesk();
        for (String open : new String[] {"-", "(", "if ", "1+(-", "if 1 then (", "1<-", "if 1 then 2 else -"}) {
            due("FAULT", Tape.grammar(desk, around(times(open, open.length() < 4 ? 20 : 1))), NONE);
            due("it is", desk.fault(0), 1);
            due("fine", Tape.grammar(desk, around(times("-", 20) + "1")), 2);
            due("fine", Tape.grammar(desk, around("(" + ofTokens(38) + ")")), 2);
        }
        comesTo(times("-", 20) + "1", 0, 1);
        comesTo(times("(-", 9) + "--1" + times(")", 9), 0, -1);
    }

    private static void ifIsOpen() {
        fineIn("if " + times("-", 19) + "1 then 2 else 3");
        faultIn("if " + times("-", 19) + "|-1 then 2 else 3", 4);
        fineIn("if 1 then " + times("-", 19) + "2 else 3");
        faultIn("if 1 then " + times("-", 19) + "|-2 else 3", 4);
        fineIn("if 1 then 2 else " + times("-", 19) + "3");
        faultIn("if 1 then 2 else " + times("-", 19) + "|-3", 4);
        fineIn("if 1 then 2 else 3 + 4 * " + times("-", 19) + "5");
        faultIn("if 1 then 2 else 3 + 4 * " + times("-", 19) + "|-5", 4);
        fineIn("if 1 then 2 else 3 < " + times("-", 19) + "5");
        faultIn("if 1 then 2 else 3 < " + times("-", 19) + "|-5", 4);
        // With its last E it ends: at a ), at the then or the else of one around it.
        fineIn("(if 1 then 2 else 3) + " + times("-", 20) + "4");
        faultIn("(if 1 then 2 else 3) + " + times("-", 20) + "|-4", 4);
        fineIn("if if 1 then 2 else 3 then " + times("-", 19) + "4 else 5");
        faultIn("if if 1 then 2 else 3 then " + times("-", 19) + "|-4 else 5", 4);
        fineIn("if 1 then if 2 then 3 else 4 else " + times("-", 19) + "5");
        faultIn("if 1 then if 2 then 3 else 4 else " + times("-", 19) + "|-5", 4);
        fineIn("if 1 then 2 else if 3 then 4 else " + times("-", 18) + "5");
        faultIn("if 1 then 2 else if 3 then 4 else " + times("-", 18) + "|-5", 4);
        fineIn("if if 1 then 2 else if 3 then 4 else 5 then " + times("-", 19) + "6 else 7");
        faultIn("if if 1 then 2 else if 3 then 4 else 5 then " + times("-", 19) + "|-6 else 7", 4);
        fineIn("-(if 1 then 2 else 3) + " + times("-", 20) + "4");
        faultIn("-(if 1 then 2 else 3) + " + times("-", 20) + "|-4", 4);
        fineIn("-(if 1 then 2 else " + times("-", 17) + "3)");
        faultIn("-(if 1 then 2 else " + times("-", 17) + "|-3)", 4);
    }

    private static void minusIsOpen() {
        // To the end of its U: a B behind the last -, which may be a ( E ).
        for (String sign : new String[] {"+", "-", "*", "/", "%", "<", "="}) {
            fineIn("-1" + sign + times("-", 20) + "1");
            faultIn("-1" + sign + times("-", 20) + "|-1", 4);
            fineIn("--1" + sign + times("-", 20) + "own");
            faultIn("-own" + sign + times("-", 20) + "|(1", 4);
            fineIn("-1.s" + sign + times("-", 20) + "0.w");
            fineIn("-(-1)" + sign + times("-", 20) + "1");
            faultIn("-(-1)" + sign + times("-", 20) + "|-1", 4);
        }
        fineIn("-(1+" + times("-", 18) + "1)");
        faultIn("-(1+" + times("-", 18) + "|-1)", 4);
        fineIn("-(-1+" + times("-", 18) + "1)");
        faultIn("-(-1+" + times("-", 18) + "|-1)", 4);
        fineIn("--(1*" + times("-", 17) + "1)");
        faultIn("--(1*" + times("-", 17) + "|-1)", 4);
        faultIn("if -1 then " + times("-", 19) + "|-1 else 2", 4);
        fineIn("if -1 then " + times("-", 19) + "1 else 2");
    }

    private static void five() {
        fineIn("2147483647");
        comesTo("2147483647", 0, MOST);
        comesTo("-2147483647", 0, -MOST);
        faultIn("|2147483648", 5);
        faultIn("-|2147483648", 5);
        faultIn("1 + (|2147483648)", 5);
        faultIn("if |2147483648 then 2 else 3", 5);
        fineIn("00000000000000000000002147483647");
        faultIn("|00000000000000000000002147483648", 5);
        for (String number : new String[] {"2147483650", "4294967295", "4294967296", "9999999999", "21474836470",
                "9223372036854775807", "9223372036854775808", "18446744073709551615", "18446744073709551616",
                "18446744073709551617", "340282366920938463463374607431768211456" + times("0", 100)}) {
            faultIn("|" + number, 5);
            treeFault("sym S;rule a=S:end", "(a |" + number + ")", 5);
        }
    }

    private static void six() {
        faultAt(BOTH + "rule x=X:0.s=1;0.t=1;0.|i=1;end", 6);
        faultAt(BOTH + "rule x=X:0.|j=0.j;0.s=1;0.t=1;end", 6);
        faultAt(BOTH + "rule a=S X:0.v=1;1.|s=1;end", 6);
        faultAt(BOTH + "rule a=S X:0.v=1;1.i=1;1.j=1;1.|t=1;end", 6);
        faultAt(BOTH + "rule a=S X X X:3.|s=1;end", 6);
        faultAt(BOTH + "rule a=X X:0.|i", 6);
        faultAt(BOTH + "rule a=X X:1.|s;", 6);
        fine(BOTH + LEAF + "rule a=X X:0.s=0.i;0.t=0.t;1.i=1.s;1.j=1.i;end", 2);
    }

    private static void seven() {
        faultAt(BOTH + "rule a=S X:0.v=1;0.|v=1;1.i=1;1.j=1;end", 7);
        faultAt(BOTH + "rule a=S X:1.j=1;1.i=1;1.|j=1;0.v=1;end", 7);
        faultAt(BOTH + "rule a=S X X X:3.j=1;2.j=1;1.j=1;3.|j", 7);
        faultAt(BOTH + LEAF + "rule b=S:0.v=1;0.|v=1;end", 7);
        // In another RULE, of another CHILD, or of the HEAD, it is no second time.
        fine(BOTH + LEAF + "rule y=X:0.s=1;0.t=1;end", 2);
        fine(BOTH + LEAF + "rule a=S X X:0.v=1;1.i=1;1.j=1;2.i=1;2.j=1;end", 2);
        fine("sym S syn v;sym X syn v;rule a=S X:0.v=1;end rule b=X X:0.v=1;end", 2);
    }

    private static void eight() {
        String[] due = {"0.s=1;", "0.t=1;", "1.i=1;", "1.j=1;", "2.i=1;", "2.j=1;", "3.i=1;", "3.j=1;"};
        for (int lacks = -1; lacks < due.length; lacks++) {
            StringBuilder text = new StringBuilder(BOTH + "rule a=X X X X:");
            for (int i = due.length - 1; i >= 0; i--) {
                text.append(i == lacks ? "" : due[i]);
            }
            if (lacks < 0) {
                fine(text + "end", 1);
            } else {
                faultAt(text + "|end", 8);
            }
        }
        faultAt(BOTH + "rule a=S:|end", 8);
        faultAt(BOTH + LEAF + "rule a=S:|end rule b=S:0.v=1;end", 8);
        fine(BOTH + "rule a=S:0.v=1;end", 1);
        // What an earlier grammar told is none of this one's.
        AttributeDesk desk = new AttributeDesk();
        due("told", Tape.grammar(desk, BOTH + "rule a=S:0.v=1;end"), 1);
        due("and told", Tape.grammar(desk, BOTH + "rule a=S:0.v=1;end"), 1);
        due("not told", Tape.grammar(desk, BOTH + "rule a=S:end"), NONE);
        due("FAULT", desk.fault(0), 8);
    }

    private static void nine() {
        fault("sym S inh i;rule a=S:end", 9, 24);
        fault("sym S inh i;rule a=S:end \n ", 9, 27);
        fault("sym S syn v inh i syn w;sym T;rule a=S:0.v=1;0.w=1;end", 9, 54);
        fault("sym S inh i;sym T;rule a=T:end", 9, 30);
        fine("sym S;sym T inh i;rule a=S:end", 1);
        fine("sym S syn i;sym T inh i;rule a=S:0.i=1;end", 1);
        // Behind all other FAULTS.
        faultAt("sym S inh i;rule a=S:end |;", 1);
        faultAt("sym S inh i;rule a=|T:end", 3);
        faultAt("sym S inh i;rule a=S S:|end", 8);
    }
}
