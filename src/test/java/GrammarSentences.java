/** The sentences of I. GRAMMARS on TOKENS and on what a grammar consists of. */
final class GrammarSentences extends Checks {
    private static final String[] KEYWORDS = {"sym", "inh", "syn", "rule", "end", "own", "if", "then", "else"};

    static void tell(Sentences all) {
        all.part("## Terms");
        all.part("==== I. GRAMMARS:");
        all.hold("texts of up to 3,000 bytes.", GrammarSentences::upTo3000Bytes);
        all.hold("TOKENS, blanks (32, 10) aside,", GrammarSentences::blanksAside);
        all.hold("the longest that begin there:", GrammarSentences::longestThatBegin);
        all.hold("NAMES (letters a .. z, A .. Z, 8 at most),", GrammarSentences::namesOfLetters);
        all.hold("KEYWORDS (sym inh syn rule end own if then else),", GrammarSentences::keywords);
        all.hold("NUMBERS (digits),", GrammarSentences::numbersOfDigits);
        all.hold("the signs ; : = . ( ) < + - * / %.", GrammarSentences::signs);
        all.hold("GRAMMAR: SYMBOL {SYMBOL} RULE {RULE}.", GrammarSentences::grammarOfSymbolsAndRules);
        all.hold("SYMBOL: sym NAME {(inh or syn) NAME} ;", GrammarSentences::symbolParts);
        all.hold("RULE: rule NAME = NAME {NAME} : {EQUATION} end.", GrammarSentences::ruleParts);
        all.hold("The first NAME behind = is the rule's HEAD, those behind it its CHILDREN, 1, 2, .. (the HEAD is 0).",
                GrammarSentences::headAndChildren);
        all.hold("EQUATION: OCC = E ;", GrammarSentences::equationParts);
        all.hold("OCC: NUMBER . NAME: an attribute of the HEAD or of a CHILD.", GrammarSentences::occParts);
        all.hold("E: if E then E else E; C.", GrammarSentences::ifParts);
        all.hold("C: S [(< or =) S].", GrammarSentences::oneComparison);
        all.hold("S: T {(+ or -) T}.", GrammarSentences::sums);
        all.hold("T: U {(* or / or %) U}.", GrammarSentences::products);
        all.hold("U: - U; B.", GrammarSentences::minus);
        all.hold("B: NUMBER; own; OCC; ( E ).", GrammarSentences::innermost);
    }

    private static void upTo3000Bytes() {
        String head = "sym S syn v;rule a=S:0.v=own+1;";
        String end = times(" ", 3000 - head.length() - 3) + "end";
        AttributeDesk desk = new AttributeDesk();
        due("grammar of 3,000 bytes", Tape.grammar(desk, head + end), 1);
        due("TREE of 3,000 bytes", Tape.tree(desk, "(a" + times(" ", 2996) + "7)"), 1);
        due("the byte ahead of the last", desk.node(0, 3), 7);
        fault("sym S" + times("\n", 2995), 1, 3000);
        faultAt(head + end.substring(2) + " |x", 1);
        fault("sym S inh i;rule a=S:" + times(" ", 2976) + "end", 9, 3000);
        // About as many TOKENS as a text holds: 60 Es of 40 of them.
        StringBuilder text = new StringBuilder("sym S syn a syn b syn c syn d syn e syn f;");
        for (int r = 0; r < 10; r++) {
            text.append("rule ").append(letter(r)).append("=S:");
            for (int a = 0; a < 6; a++) {
                text.append("0.").append(letter(a)).append("=-1").append(times("+1", 19)).append(';');
            }
            text.append("end ");
        }
        desk = new AttributeDesk();
        for (int i = 0; i < 3; i++) {
            due("a grammar full of TOKENS", Tape.grammar(desk, text.toString()), 10);
        }
        due("its TREE", Tape.tree(desk, "(j)"), 1);
        for (int a = 0; a < 6; a++) {
            due("its last RULE", desk.demand(0, a), 0);
            due("its last RULE", desk.value(0, a, 1), 18);
        }
    }

    private static void blanksAside() {
        fine("sym S syn v;rule a=S:0.v=if 1then own else-2*(0.v<3);end", 1);
        for (String blank : new String[] {" ", "\n", " \n", "\n\n  \n"}) {
            fine(("_sym_S_syn_v_;_rule_a_=_S_:_0_._v_=_if_1_then_own_else_-_2_*_(_0_._v_<_3_)_;_end_").replace("_", blank), 1);
            AttributeDesk desk = deskOf("sym S;rule a=S:end rule b=S S:end", "_(_b_1_(_a_)_)_".replace("_", blank));
            due("NODES", desk.about(3), 2);
        }
        for (int sign = 0; sign < 256; sign++) {
            boolean joins = Character.isLetterOrDigit(sign) && sign < 128;
            if (sign != 32 && sign != 10 && !joins) {
                fault("sym" + (char) sign + "S;rule a=S:end", 1, 3);
                fault((char) sign + "sym S;rule a=S:end", 1, 0);
                fault("sym S;rule a=S:end" + (char) sign, 1, 18);
            }
        }
        // Within a TOKEN a blank makes two.
        faultAt("|sy m S;rule a=S:end", 1);
        faultAt("sym S;rule a |a=S:end", 1);
        faultAt("sym S;rule a=S:|en d", 1);
        faultIn("1 |2", 1);
    }

    private static void longestThatBegin() {
        faultAt("|symS;rule a=S:end", 1);
        faultAt("sym S;|rulea=S:end", 1);
        faultAt("sym S;rule a=S:|endrule b=S:end", 1);
        faultAt("sym S;rule a=S:|endendend", 1);
        fine("sym symS;rule rulea=symS:end", 1);
        fine("sym S;rule a=S:end\nrule b=S:end", 2);
        comesTo("12", 0, 12);
        comesTo("own-12", 0, -7);
        fineIn("if 1then 2else 3");
        fineIn("if1then 2else 3");
        faultIn("if 1 |thenown else 3", 1);
    }

    private static void namesOfLetters() {
        for (char sign = 'A'; sign <= 'z'; sign++) {
            if (Character.isLetter(sign)) {
                fine("sym " + sign + " syn " + sign + ";rule " + sign + "=" + sign + ":0." + sign + "=1;end", 1);
            } else {
                faultAt("sym |" + sign + ";rule a=S:end", 1);
                faultAt("sym S|" + sign + ";rule a=S:end", 1);
            }
        }
        faultAt("sym |@;rule a=S:end", 1);
        faultAt("sym S|{;rule a=S:end", 1);
        faultAt("sym S|_;rule a=S:end", 1);
        faultAt("sym S|1;rule a=S:end", 1);
        String eight = "abcdefgh";
        fine("sym " + eight + " syn " + eight + ";rule " + eight + "=" + eight + ":0." + eight + "=1;end", 1);
        AttributeDesk desk = deskOf("sym S;rule " + eight + "=S:end", "(" + eight + ")");
        due("RULE of 8 letters", desk.node(0, 0), 0);
        // Each letter of the 8 tells NAMES apart, and how many there are.
        for (int i = 0; i < 8; i++) {
            String other = eight.substring(0, i) + "X" + eight.substring(i + 1);
            fine("sym " + eight + ";sym " + other + ";sym " + eight.substring(i + 1) + "Y;rule a=" + other + ":end", 1);
            faultAt("sym " + eight + ";rule a=|" + other + ":end", 3);
            faultAt("sym " + eight + ";rule a=|" + eight.substring(0, i) + "z:end", 3);
        }
        faultAt("sym A;sym |A;rule a=A:end", 2);
        fine("sym A;sym a;rule a=A:end rule A=a:end", 2);
    }

    private static void keywords() {
        for (String key : KEYWORDS) {
            faultAt("sym |" + key + ";rule a=S:end", 1);
            faultAt("sym S syn |" + key + ";rule a=S:0.a=1;end", 1);
            faultAt("sym S inh |" + key + ";rule a=S:0.a=1;end", 1);
            faultAt("sym S;rule |" + key + "=S:end", 1);
            faultAt("sym S;rule a=|" + key + ":end", 1);
            faultAt("sym S;rule a=S |" + key + ":end", 1);
            faultAt("sym S syn v;rule a=S:0.|" + key + "=1;end", 1);
            faultIn("0.|" + key, 1);
            treeFault("sym S;rule a=S:end", "(|" + key + ")", 1);
            String capital = Character.toUpperCase(key.charAt(0)) + key.substring(1);
            String shorter = key.substring(1);
            for (String name : new String[] {capital, key.toUpperCase(), key + "s", "s" + key, shorter, key + key}) {
                fine("sym " + name + " syn " + name + ";rule " + name + "=" + name + ":0." + name + "=1;end", 1);
            }
        }
    }

    private static void numbersOfDigits() {
        comesTo("1234567890", 0, 1234567890);
        comesTo("0", 0, 0);
        comesTo("0000000000000000000000000000007", 0, 7);
        fine("sym S syn v;rule a=S:00000000000000000000000000.v=1;end", 1);
        fineIn("00001.s");
        faultIn("|a", 1);
        faultIn("1|a", 1);
        AttributeDesk desk = deskOf("sym S;rule a=S:end", "(a 0000000000000000000098)");
        due("OWN", desk.node(0, 3), 98);
    }

    private static void signs() {
        for (char sign : ";:=.()<+-*/%".toCharArray()) {
            faultAt("sym S;rule a=S:end |" + sign, 1);
        }
        comesTo("(1 + 2 * 3 - 4 / 2 % 3 < 10) = 1", 0, 1);
        for (char sign : "!\"#$&',>?@[\\]^_`{|}~".toCharArray()) {
            fault("sym S;rule a=S:end " + sign, 1, 19);
            fault("sym S syn v;rule a=S:0.v=1" + sign + "1;end", 1, 26);
        }
    }

    private static void grammarOfSymbolsAndRules() {
        fault("", 1, 0);
        fault("  \n", 1, 3);
        faultAt("|rule a=S:end", 1);
        fault("sym S;", 1, 6);
        fault("sym S; ", 1, 7);
        faultAt("sym S;|end", 1);
        faultAt("sym S;|;rule a=S:end", 1);
        fine("sym S;rule a=S:end", 1);
        fine("sym S;sym T;rule a=S:end rule b=T:end", 2);
        faultAt("sym S;rule a=S:end |sym T;", 1);
        faultAt("sym S;rule a=S:end |sym T;rule b=S:end", 1);
        faultAt("sym S;rule a=S:end |end", 1);
        // Each text that a whole one is cut to, TOKEN by TOKEN, lacks something at its end.
        String[] tokens = ("sym S syn v ; sym X inh i syn s ; rule x = X : 0 . s = 0 . i ; end rule a = S X : 0 . v = if 1 "
                + "then ( own ) else - 1 . s * 2 < 3 ; 1 . i = 2 ; end").split(" ");
        StringBuilder text = new StringBuilder();
        int rules = 0;
        for (String token : tokens) {
            text.append(token).append(' ');
            rules += token.equals("end") ? 1 : 0;
            if (token.equals("end")) {
                fine(text.toString(), rules);
            } else {
                fault(text.toString(), 1, text.length());
            }
        }
    }

    private static void symbolParts() {
        faultAt("|S;rule a=S:end", 1);
        faultAt("sym |;rule a=S:end", 1);
        faultAt("sym S |v;rule a=S:0.v=1;end", 1);
        faultAt("sym S syn |;rule a=S:end", 1);
        faultAt("sym S inh |;rule a=S:end", 1);
        faultAt("sym S syn |syn v;rule a=S:0.v=1;end", 1);
        faultAt("sym S syn v |w;rule a=S:0.v=1;end", 1);
        faultAt("sym S |rule a=S:end", 1);
        faultAt("sym S syn v |rule a=S:0.v=1;end", 1);
        faultAt("sym S |sym T;rule a=S:end", 1);
        AttributeDesk desk = new AttributeDesk();
        Tape.grammar(desk, "sym N;sym A inh a syn b syn c inh d;sym S syn v;rule n=N:end");
        due("none", desk.symbol(0, 0), 0);
        due("of both kinds", desk.symbol(1, 0), 4);
        int[] inherited = {1, 0, 0, 1};
        for (int a = 0; a < 4; a++) {
            due("inherited " + a, desk.symbol(1, 100 + a), inherited[a]);
        }
        due("one", desk.symbol(2, 0), 1);
    }

    private static void ruleParts() {
        faultAt("sym S;rule |=S:end", 1);
        faultAt("sym S;rule a |S:end", 1);
        faultAt("sym S;rule a=|:end", 1);
        faultAt("sym S;rule a=S |end", 1);
        faultAt("sym S;rule a=S S |end", 1);
        faultAt("sym S;rule a=S S S S |end", 1);
        faultAt("sym S;rule a=S |;end", 1);
        faultAt("sym S;rule a=S :|;end", 1);
        faultAt("sym S;rule a=S:|rule b=S:end", 1);
        faultAt("sym S syn v;rule a=S:0.v=1;|rule b=S:0.v=1;end", 1);
        faultAt("sym S;rule a=S|,:end", 1);
        fine("sym S;rule a=S:end", 1);
        fine("sym S;rule a=S S S S:end", 1);
    }

    private static void headAndChildren() {
        AttributeDesk desk = new AttributeDesk();
        Tape.grammar(desk, "sym A syn v;sym B syn v;sym C syn v;sym D syn v;rule r=C A D B:0.v=0+1.v*100+2.v*10+3.v;end "
                + "rule a=A:0.v=1;end rule b=B:0.v=2;end rule d=D:0.v=3;end rule s=A C:0.v=1.v;end");
        due("HEAD", desk.rule(0, 0), 2);
        due("CHILDREN", desk.rule(0, 1), 3);
        due("CHILD 1", desk.rule(0, 11), 0);
        due("CHILD 2", desk.rule(0, 12), 3);
        due("CHILD 3", desk.rule(0, 13), 1);
        due("a RULE without CHILDREN", desk.rule(1, 1), 0);
        due("TREE", Tape.tree(desk, "(s(r(a)(d)(b)))"), 5);
        due("demand", desk.demand(0, 0), 0);
        due("by their numbers", desk.value(0, 0, 1), 132);
    }

    private static void equationParts() {
        String rule = "sym S syn v;rule a=S:";
        faultAt(rule + "|v=1;end", 1);
        faultAt(rule + "|own=1;end", 1);
        faultAt(rule + "|=1;end", 1);
        faultAt(rule + "0.v |1;end", 1);
        faultAt(rule + "0.v |< 1;end", 1);
        faultAt(rule + "0.v = |;end", 1);
        faultAt(rule + "0.v = 1 |end", 1);
        faultAt(rule + "0.v = 1 |: end", 1);
        faultAt(rule + "0.v = 1;|;end", 1);
        fine(rule + "0.v = 1;end", 1);
        fine("sym S;rule a=S:end", 1);
    }

    private static void occParts() {
        String rule = "sym S syn v;rule a=S:";
        faultAt(rule + "0|v=1;end", 1);
        faultAt(rule + "0.|=1;end", 1);
        faultAt(rule + "0.|0=1;end", 1);
        faultAt(rule + "0|=1;end", 1);
        faultIn("0.|;", 1);
        faultIn("0.|1", 1);
        faultIn("0.|(w)", 1);
        faultIn("0.w|.w", 1);
        faultIn("0 |w", 1);
        faultIn("|.w", 1);
        comesTo("0.w", 0, 7);
        comesTo("1.i", 0, 7);
        comesTo("1.s", 0, 7);
        comesTo("0 . w + 1\n.\ns", 0, 14);
    }

    private static void ifParts() {
        comesTo("if 1 then 2 else 3", 0, 2);
        comesTo("if 0 then 2 else 3", 0, 3);
        faultIn("if |then 2 else 3", 1);
        faultIn("if 1 |else 3", 1);
        faultIn("if 1 |2 else 3", 1);
        faultIn("if 1 then |else 3", 1);
        faultIn("if 1 then 2 |", 1);
        faultIn("if 1 then 2 |3", 1);
        faultIn("if 1 then 2 else |", 1);
        faultIn("if 1 then 2 else 3 |else 4", 1);
        faultIn("if 1 then 2 |then 3 else 4", 1);
        faultIn("if 1 then 2 else 3 |then 4", 1);
        faultIn("1 |then 2 else 3", 1);
        faultIn("1 |else 2", 1);
        faultIn("|then 2 else 3", 1);
        faultIn("|else 3", 1);
        faultIn("(if 1 |) then 2 else 3", 1);
        faultIn("(if 1 then 2|) else 3", 1);
        faultIn("if (1 |then 2) else 3", 1);
        faultIn("if 1 then (2 |else 3)", 1);
        // Each of the three is a whole E.
        comesTo("if if 0 then 1 else 0 then 2 else 3", 0, 3);
        comesTo("if 1 then if 0 then 1 else 2 else 3", 0, 2);
        comesTo("if 0 then 1 else if 0 then 2 else 3", 0, 3);
        comesTo("if 1 < 2 then 3 < 2 else 2 < 3", 0, 0);
        comesTo("if 2 < 1 then 3 < 2 else 2 < 3", 0, 1);
        comesTo("if 1 then 2 else 3 + 10", 0, 2);
        comesTo("if 0 then 2 else 3 + 10", 0, 13);
        // An if is no S, no T and no U.
        for (String ahead : new String[] {"1 + ", "1 - ", "1 * ", "1 / ", "1 % ", "1 < ", "1 = ", "- ", "1 + - "}) {
            faultIn(ahead + "|if 1 then 2 else 3", 1);
            fineIn(ahead + "(if 1 then 2 else 3)");
        }
        faultIn("1 |if 1 then 2 else 3", 1);
    }

    private static void oneComparison() {
        comesTo("6 < 7", 0, 1);
        comesTo("7 = 7", 0, 1);
        comesTo("1 + 2 < 2 + 2", 0, 1);
        comesTo("2 * 3 = 6", 0, 1);
        comesTo("own", 0, 5);
        for (String two : new String[] {"1 < 2 |< 3", "1 < 2 |= 3", "1 = 2 |< 3", "1 = 2 |= 3", "1 < 2 + 3 * 4 |< 5"}) {
            faultIn(two, 1);
            faultIn("(" + two + ")", 1);
            faultIn("if " + two + " then 1 else 2", 1);
            faultIn("if 1 then " + two + " else 2", 1);
            faultIn("if 1 then 2 else " + two, 1);
        }
        faultIn("|< 1", 1);
        faultIn("1 < |", 1);
        faultIn("1 < |< 1", 1);
        faultIn("1 = |= 1", 1);
        faultIn("1 + |< 1", 1);
        // One in each E; a C in ( ) is a B.
        comesTo("(1 < 2) < 3", 0, 1);
        comesTo("1 < (1 < 2)", 0, 0);
        comesTo("(1 < 2) = (2 < 3)", 0, 1);
        comesTo("if 1 < 2 then 2 = 2 else 3 < 2", 0, 1);
    }

    private static void sums() {
        comesTo("1 + 2 + 3", 0, 6);
        comesTo("10 - 3 - 2", 0, 5);
        comesTo("10 - 3 + 2", 0, 9);
        comesTo("10 - (3 + 2)", 0, 5);
        comesTo("1 + 2 * 3 + 4", 0, 11);
        comesTo("20 - 2 * 3 - 4", 0, 10);
        faultIn("|+ 1", 1);
        faultIn("1 + |", 1);
        faultIn("1 + |+ 1", 1);
        faultIn("1 - |+ 1", 1);
        faultIn("(1 + |)", 1);
    }

    private static void products() {
        comesTo("2 * 3 * 4", 0, 24);
        comesTo("100 / 5 / 2", 0, 10);
        comesTo("100 / (6 / 2)", 0, 33);
        comesTo("100 % 7 * 3", 0, 6);
        comesTo("3 * 100 % 7", 0, 6);
        comesTo("7 / 2 * 2", 0, 6);
        faultIn("|* 1", 1);
        faultIn("|/ 1", 1);
        faultIn("|% 1", 1);
        faultIn("1 * |", 1);
        faultIn("1 / |* 1", 1);
        faultIn("1 % |% 1", 1);
        faultIn("1 + |* 1", 1);
    }

    private static void minus() {
        comesTo("- 1", 0, -1);
        comesTo("- - 1", 0, 1);
        comesTo("- - - 1", 0, -1);
        comesTo("1 - - 1", 0, 2);
        comesTo("1 - - - 1", 0, 0);
        comesTo("2 * - 3", 0, -6);
        comesTo("- 7 / 2", 0, -3);
        comesTo("- (1 + 2)", 0, -3);
        comesTo("- 1 + 2", 0, 1);
        comesTo("- own * - own", 0, 25);
        comesTo("- 1.s", 0, -7);
        faultIn("- |", 1);
        faultIn("- |+ 1", 1);
        faultIn("- |* 1", 1);
        faultIn("- |)", 1);
    }

    private static void innermost() {
        comesTo("3", 0, 3);
        comesTo("own", 0, 5);
        comesTo("1.s", 0, 7);
        comesTo("((3))", 0, 3);
        comesTo("(if 1 then 2 else 3) * (2 < 3)", 0, 2);
        faultIn("|", 1);
        faultIn("|v", 1);
        faultIn("|rule", 1);
        faultIn("|end", 1);
        faultIn("(|)", 1);
        faultIn("(1|", 1);
        faultIn("((1)|", 1);
        faultIn("1|)", 1);
        faultIn("(1)|)", 1);
        faultIn("(1)|(1)", 1);
        faultIn("(1) |2", 1);
        faultIn("1 |own", 1);
        faultIn("own |1", 1);
        faultIn("own |own", 1);
        faultIn("own|.w", 1);
        faultIn("1.s |1.s", 1);
        faultIn("1 |(2)", 1);
        faultIn("(1 |2)", 1);
    }
}
