/** The sentences of II. TREES on what hangs on what, on VALUES and on what is DEMANDED. */
final class DemandSentences extends Checks {
    static void tell(Sentences all) {
        all.part("==== II. TREES of a grammar:");
        all.hold("An attribute of a NODE hangs on those that its EQUATION names (each OCC of it, also where if doesn't "
                + "choose it);", DemandSentences::hangsOnEach);
        all.hold("the EQUATION of an inherited one is of the RULE of the NODE above (own is that one's OWN then),",
                DemandSentences::inheritedFromAbove);
        all.hold("that of a synthesized one of its own RULE.", DemandSentences::synthesizedOfItsOwn);
        all.hold("VALUES: a number (32 bits; Java's work;", DemandSentences::wrapsAround);
        all.hold("< and = give 1 or 0),", DemandSentences::comparisons);
        all.hold("or BAD: / or % by 0,", DemandSentences::badByZero);
        all.hold("or a part that is BAD;", DemandSentences::badByPart);
        all.hold("of if: BAD what is behind if,", DemandSentences::badBehindIf);
        all.hold("else only the part that is chosen (behind then if it isn't 0) counts;", DemandSentences::chosenCounts);
        all.hold("or GOES ROUND.", DemandSentences::goesRound);
        all.hold("DEMANDED of a NODE an attribute: if it isn't worked out yet,", DemandSentences::workedOutOnce);
        all.hold("what it hangs on is demanded first, in the order of the OCCS in its EQUATION; then it is worked out.",
                DemandSentences::inTheOrderOfOccs);
        all.hold("If it GOES ROUND nothing more is worked out than what was ahead of coming to one that is on its own way;",
                DemandSentences::nothingMoreThanAhead);
        all.hold("what was worked out stays so, till a TREE is read, or an OWN changes.", DemandSentences::staysSo);
    }

    /** Answers of order() are these, and none more. */
    private static void order(AttributeDesk desk, int... due) {
        for (int i = 0; i < due.length; i++) {
            due("order " + i, desk.order(i), due[i]);
        }
        due("none behind", desk.order(due.length), NONE);
        due("worked out", desk.about(4), due.length);
    }

    private static void hangsOnEach() {
        AttributeDesk desk = deskOf("sym S syn a syn b syn c syn d;rule r=S:0.a=if 0 then 0.b else if 1 then 0.c else 0.d;"
                + "0.b=1;0.c=2;0.d=3;end", "(r)");
        due("demand", desk.demand(0, 0), 0);
        order(desk, 1, 2, 3, 0);
        desk = deskOf("sym S syn a syn b syn c;rule r=S:0.a=if 1 then 2 else 0.a;0.b=if 0 then 0.c else 1;0.c=0.b;end", "(r)");
        due("itself where if doesn't choose it", desk.demand(0, 0), 2);
        due("round where if doesn't choose it", desk.demand(0, 1), 2);
        desk = deskOf("sym S syn a syn b;rule r=S:0.a=0*0.b;0.b=0.b;end", "(r)");
        due("times 0", desk.demand(0, 0), 2);
        desk = deskOf("sym S syn a syn b;rule r=S:0.a=1/0+0.b;0.b=0.b;end", "(r)");
        due("behind what is BAD", desk.demand(0, 0), 2);
        desk = deskOf("sym S syn a;rule r=S:0.a=own;end", "(r)");
        due("on none", desk.demand(0, 0), 0);
    }

    private static void inheritedFromAbove() {
        AttributeDesk desk = deskOf("sym S;sym X inh i inh j;rule r=S X X:1.i=own;1.j=own+1;2.i=own*10;2.j=1.i+2.i;end "
                + "rule c=X X:1.i=0.i+own;1.j=0.j;end rule x=X:end", "(r 5(c 100(x 1000))(x 2000))");
        int[][] numbers = {{5, 6}, {105, 6}, {50, 55}};
        for (int n = 1; n <= 3; n++) {
            for (int a = 0; a < 2; a++) {
                due("demand", desk.demand(n, a), 0);
                due("inherited " + n + " " + a, desk.value(n, a, 1), numbers[n - 1][a]);
            }
        }
        due("own of the NODE itself", desk.own(2, -1), true);
        due("demand", desk.demand(2, 0), 0);
        due("isn't what counts", desk.value(2, 0, 1), 105);
        due("own of the NODE above", desk.own(1, -1), true);
        due("demand", desk.demand(2, 0), 0);
        due("is what counts", desk.value(2, 0, 1), 4);
    }

    private static void synthesizedOfItsOwn() {
        AttributeDesk desk = deskOf("sym S syn v;rule r=S S S:0.v=1.v*10+2.v+own;end rule a=S:0.v=own;end "
                + "rule b=S:0.v=-own;end", "(r 1000(a 7)(b 3))");
        int[] numbers = {1067, 7, -3};
        for (int n = 2; n >= 0; n--) {
            due("demand", desk.demand(n, 0), 0);
            due("synthesized " + n, desk.value(n, 0, 1), numbers[n]);
        }
    }

    private static void wrapsAround() {
        comesTo("2147483647 + 1", 0, LEAST);
        comesTo("2147483647 + 2147483647", 0, -2);
        comesTo("- 2147483647 - 1", 0, LEAST);
        comesTo("- 2147483647 - 2", 0, MOST);
        comesTo("- 2147483647 - 1 + 2147483647 + 1", 0, 0);
        comesTo("65536 * 65536", 0, 0);
        comesTo("65536 * 32768", 0, LEAST);
        comesTo("2147483647 * 2147483647", 0, 1);
        comesTo("123456789 * 987654321", 0, 123456789 * 987654321);
        comesTo("- (- 2147483647 - 1)", 0, LEAST);
        comesTo("(- 2147483647 - 1) * - 1", 0, LEAST);
        comesTo("(- 2147483647 - 1) / - 1", 0, LEAST);
        comesTo("(- 2147483647 - 1) % - 1", 0, 0);
        comesTo("(- 2147483647 - 1) / 2147483647", 0, -1);
        comesTo("(- 2147483647 - 1) % 2147483647", 0, -1);
        comesTo("7 / 2", 0, 3);
        comesTo("(- 7) / 2", 0, -3);
        comesTo("7 / - 2", 0, -3);
        comesTo("(- 7) / - 2", 0, 3);
        comesTo("7 % 2", 0, 1);
        comesTo("(- 7) % 2", 0, -1);
        comesTo("7 % - 2", 0, 1);
        comesTo("(- 7) % - 2", 0, -1);
        for (int by : new int[] {1, 2, 3, MOST}) {
            comesTo("2147483647 / " + by, 0, MOST / by);
            comesTo("2147483647 / - " + by, 0, MOST / -by);
            comesTo("2147483647 % " + by, 0, MOST % by);
            comesTo("2147483647 % - " + by, 0, MOST % -by);
        }
        comesTo("0 / 5", 0, 0);
        comesTo("0 % 5", 0, 0);
        AttributeDesk desk = deskOf("sym S syn v syn w;rule a=S:0.v=own-1;0.w=0.v+1;end", "(a)");
        due("own", desk.own(0, LEAST), true);
        due("demand", desk.demand(0, 1), 0);
        due("wraps", desk.value(0, 0, 1), MOST);
        due("and back", desk.value(0, 1, 1), LEAST);
    }

    private static void comparisons() {
        comesTo("1 < 2", 0, 1);
        comesTo("2 < 2", 0, 0);
        comesTo("3 < 2", 0, 0);
        comesTo("1 = 2", 0, 0);
        comesTo("2 = 2", 0, 1);
        comesTo("3 = 2", 0, 0);
        comesTo("- 1 < 0", 0, 1);
        comesTo("0 < - 1", 0, 0);
        comesTo("- 2147483647 - 1 < 2147483647", 0, 1);
        comesTo("2147483647 < - 2147483647 - 1", 0, 0);
        comesTo("2147483647 + 1 < 0", 0, 1);
        comesTo("- 2147483647 - 1 = 2147483647 + 1", 0, 1);
        comesTo("2147483647 = - 1", 0, 0);
        comesTo("65536 * 65536 = 0", 0, 1);
    }

    private static void badByZero() {
        for (String sign : new String[] {"/", "%"}) {
            comesTo("1" + sign + "0", 1, 0);
            comesTo("0" + sign + "0", 1, 0);
            comesTo("- 1" + sign + "0", 1, 0);
            comesTo("(- 2147483647 - 1)" + sign + "0", 1, 0);
            comesTo("1" + sign + "(own - 5)", 1, 0);
            comesTo("1" + sign + "(65536 * 65536)", 1, 0);
            comesTo("1" + sign + "- 0", 1, 0);
            comesTo("0" + sign + "1", 0, 0);
        }
        AttributeDesk desk = deskOf("sym S syn v syn w;rule a=S:0.v=9/own;0.w=9%own;end", "(a)");
        due("without OWN", desk.demand(0, 0), 1);
        due("without OWN", desk.demand(0, 1), 1);
        desk.own(0, 2);
        due("by 2", desk.demand(0, 0), 0);
        due("by 2", desk.value(0, 0, 1), 4);
        due("by 2", desk.demand(0, 1), 0);
        due("by 2", desk.value(0, 1, 1), 1);
        desk.own(0, 0);
        due("by 0", desk.demand(0, 0), 1);
        due("by 0", desk.value(0, 0, 1), 0);
    }

    private static void badByPart() {
        for (String sign : new String[] {"+", "-", "*", "/", "%", "<", "="}) {
            comesTo("(1 / 0)" + sign + "5", 1, 0);
            comesTo("5" + sign + "(1 % 0)", 1, 0);
            comesTo("(1 / 0)" + sign + "(1 / 0)", 1, 0);
            comesTo("0" + sign + "(1 / 0)", 1, 0);
            comesTo("(1 / 0)" + sign + "0", 1, 0);
        }
        comesTo("- (1 / 0)", 1, 0);
        comesTo("- - (1 / 0)", 1, 0);
        comesTo("1 + (2 * (3 - 4 / 0))", 1, 0);
        comesTo("(1 / 0 < 5) + 5", 1, 0);
        AttributeDesk desk = deskOf("sym S syn v;sym X inh i syn s;rule a=S X:0.v=1.s+1;1.i=own/0;end rule x=X:0.s=-0.i;end",
                "(a(x))");
        due("an OCC that is BAD", desk.demand(0, 0), 1);
        for (int a = 0; a < 2; a++) {
            due("each on the way", desk.value(1, a, 0), 1);
            due("without a number", desk.value(1, a, 1), 0);
        }
        order(desk, 6, 7, 0);
    }

    private static void badBehindIf() {
        comesTo("if 1 / 0 then 2 else 3", 1, 0);
        comesTo("if 1 % 0 < 1 then 2 else 3", 1, 0);
        comesTo("if - (1 / 0) then 2 else 3", 1, 0);
        comesTo("if if 1 / 0 then 1 else 1 then 2 else 3", 1, 0);
        comesTo("if 1 / 0 then 1 / 0 else 3", 1, 0);
        comesTo("if 1 / 0 then 2 else 1 / 0", 1, 0);
        comesTo("(if 1 / 0 then 2 else 2) * 0", 1, 0);
    }

    private static void chosenCounts() {
        comesTo("if 1 then 2 else 3", 0, 2);
        comesTo("if 0 then 2 else 3", 0, 3);
        comesTo("if - 1 then 2 else 3", 0, 2);
        comesTo("if 2 then 2 else 3", 0, 2);
        comesTo("if 2147483647 + 1 then 2 else 3", 0, 2);
        comesTo("if 65536 * 65536 then 2 else 3", 0, 3);
        comesTo("if 1 then 2 else 1 / 0", 0, 2);
        comesTo("if 0 then 1 / 0 else 3", 0, 3);
        comesTo("if 1 then 1 / 0 else 3", 1, 0);
        comesTo("if 0 then 2 else 1 / 0", 1, 0);
        comesTo("if 1 then if 0 then 1 / 0 else 4 else 1 / 0", 0, 4);
        comesTo("(if 0 then 1 / 0 else 3) + (if 1 then 4 else 1 / 0)", 0, 7);
        AttributeDesk desk = deskOf("sym S syn a syn b syn c;rule r=S:0.a=if own then 0.b else 0.c;0.b=1/0;0.c=8;end", "(r)");
        due("an OCC that isn't chosen", desk.demand(0, 0), 0);
        due("its number", desk.value(0, 0, 1), 8);
        due("is BAD", desk.value(0, 1, 0), 1);
        desk.own(0, LEAST);
        due("an OCC that is chosen", desk.demand(0, 0), 1);
        due("has no number", desk.value(0, 0, 1), 0);
    }

    private static void goesRound() {
        AttributeDesk desk = deskOf("sym S syn v;rule a=S:0.v=0.v;end", "(a)");
        due("on itself", desk.demand(0, 0), 2);
        due("isn't worked out", desk.value(0, 0, 0), NONE);
        due("has no number", desk.value(0, 0, 1), 0);
        // Up and down through 40 NODES, and round at the lowest alone.
        String grammar = "sym S syn v;sym X inh i syn s syn t;rule r=S X:0.v=1.s;1.i=1.t;end "
                + "rule c=X X:0.s=1.s;0.t=1.t;1.i=0.i;end rule l=X:0.s=0.i;0.t=1;end rule k=X:0.s=0.i;0.t=0.i;end";
        String tree = "(r" + times("(c", 38) + "(l" + times(")", 40);
        desk = deskOf(grammar, tree);
        due("not round", desk.demand(0, 0), 0);
        due("the number", desk.value(0, 0, 1), 1);
        due("all", desk.about(4), 1 + 39 * 3);
        desk = deskOf(grammar, tree.replace("(l", "(k"));
        due("round", desk.demand(0, 0), 2);
        due("round at the lowest", desk.demand(39, 0), 2);
        due("what hangs on it", desk.demand(20, 1), 2);
        due("none", desk.about(4), 0);
        due("the exact test", desk.test(0), 0);
        // Another TREE is none that goes round, though its NODES have the same numbers.
        due("another TREE", Tape.tree(desk, tree), 40);
        due("not round", desk.demand(0, 0), 0);
        due("the number", desk.value(0, 0, 1), 1);
        due("round again", Tape.tree(desk, "(r(k))"), 2);
        due("round again", desk.demand(1, 0), 2);
        due("another grammar", Tape.grammar(desk, "sym S syn v;rule r=S S:0.v=1.v;end rule k=S:0.v=own;end"), 2);
        due("its TREE", Tape.tree(desk, "(r(k 4))"), 2);
        due("not round", desk.demand(0, 0), 0);
        due("the number", desk.value(0, 0, 1), 4);
    }

    private static void workedOutOnce() {
        AttributeDesk desk = deskOf("sym S syn a syn b syn c;rule r=S:0.a=0.b+0.c+0.b+0.c;0.b=0.c;0.c=own;end", "(r 4)");
        due("demand", desk.demand(0, 1), 0);
        order(desk, 2, 1);
        due("again", desk.demand(0, 1), 0);
        order(desk, 2, 1);
        due("one that hangs on it", desk.demand(0, 0), 0);
        order(desk, 2, 1, 0);
        due("its number", desk.value(0, 0, 1), 16);
        // Of 200 NODES with six each, each once.
        StringBuilder text = new StringBuilder("sym S syn a syn b syn c syn d syn e syn f;rule n=S S S S:");
        for (int a = 0; a < 6; a++) {
            text.append("0.").append(letter(a)).append("=1");
            for (int k = 1; k <= 3; k++) {
                text.append('+').append(k).append('.').append(letter(a)).append('*').append(k).append(".a");
            }
            text.append(';');
        }
        text.append("end rule c=S S:").append("0.a=1.a;0.b=1.b;0.c=1.c;0.d=1.d;0.e=1.e;0.f=1.f;end ");
        text.append("rule l=S:0.a=1;0.b=1;0.c=1;0.d=1;0.e=1;0.f=own;end");
        String leaves = nest(33) + nest(32);
        desk = deskOf(text.toString(), "(n" + leaves + "(c(l 77)))");
        for (int a = 0; a < 6; a++) {
            due("demand", desk.demand(0, a), 0);
            due("demand again", desk.demand(0, a), 0);
        }
        due("all", desk.about(4), 1200);
        boolean[] seen = new boolean[1200];
        for (int i = 0; i < 300; i++) {
            int item = desk.order(i * 4);
            due("order " + i, item >= 0 && item < 1200 && !seen[item], true);
            seen[item] = true;
        }
        due("the last of all", desk.order(1199), 5);
        due("none behind", desk.order(1200), NONE);
        // All of them by one that is demanded.
        String five = "0.a=0.b+0.c+0.d+0.e+0.f";
        String rest = ";0.b=own;0.c=own;0.d=own;0.e=own;0.f=own;end ";
        desk = deskOf("sym S syn a syn b syn c syn d syn e syn f;rule n=S S S S:" + five + "+1.a+2.a+3.a" + rest + "rule c=S S:"
                + five + "+1.a" + rest + "rule l=S:" + five + rest, "(n" + leaves + "(c(l 77)))");
        due("demand", desk.demand(0, 0), 0);
        due("all at once", desk.about(4), 1200);
        due("the last of all", desk.order(1199), 0);
        due("none behind", desk.order(1200), NONE);
        due("own", desk.own(199, 78), true);
        order(desk);
        due("demand", desk.demand(0, 0), 0);
        due("all at once again", desk.about(4), 1200);
    }

    private static void inTheOrderOfOccs() {
        AttributeDesk desk = deskOf("sym S syn a syn b syn c syn d syn e;rule r=S:0.a=0.c*(0.e-0.b)<0.d;0.b=1;0.c=0.d;0.d=2;"
                + "0.e=0.b;end", "(r)");
        due("demand", desk.demand(0, 0), 0);
        order(desk, 3, 2, 1, 4, 0);
        desk = deskOf("sym S syn a syn b syn c syn d syn e;rule r=S:0.a=if 0.e then if 0.d then 1 else 0.c else 0.b;0.b=1;0.c=2;"
                + "0.d=3;0.e=4;end", "(r)");
        due("demand", desk.demand(0, 0), 0);
        order(desk, 4, 3, 2, 1, 0);
        // Through NODES: down at the second CHILD first, and up again.
        desk = deskOf("sym S syn v;sym X inh i syn s;rule r=S X X:0.v=2.s-1.s;1.i=own;2.i=1.s;end rule x=X:0.s=0.i+own;end",
                "(r 1(x 10)(x 100))");
        due("demand", desk.demand(0, 0), 0);
        order(desk, 6, 7, 12, 13, 0);
        due("its number", desk.value(0, 0, 1), 100);
        desk = deskOf("sym S syn a syn b;rule r=S:0.a=0.b+0.b;0.b=1;end", "(r)");
        due("twice the same", desk.demand(0, 0), 0);
        order(desk, 1, 0);
    }

    private static void nothingMoreThanAhead() {
        AttributeDesk desk = deskOf("sym S syn a syn b syn c syn d syn e syn f;rule r=S:0.a=0.b+0.c+0.d;0.b=1;0.c=0.e+0.a+0.f;"
                + "0.d=2;0.e=0.b;0.f=3;end", "(r)");
        due("round", desk.demand(0, 0), 2);
        order(desk, 1, 4);
        due("again", desk.demand(0, 0), 2);
        order(desk, 1, 4);
        due("another on the way", desk.demand(0, 2), 2);
        // c demands e, a, and this b, c: f and d are behind it.
        order(desk, 1, 4);
        due("one behind it", desk.demand(0, 3), 0);
        order(desk, 1, 4, 3);
        due("one behind it", desk.demand(0, 5), 0);
        order(desk, 1, 4, 3, 5);
        due("round still", desk.demand(0, 0), 2);
        order(desk, 1, 4, 3, 5);
        // What only hangs on the way round, ahead of it and behind it.
        desk = deskOf("sym S syn a syn b syn c syn d;rule r=S:0.a=0.b+0.c+0.d;0.b=own;0.c=0.c;0.d=1;end", "(r)");
        due("hangs on it", desk.demand(0, 0), 2);
        order(desk, 1);
        for (int a : new int[] {0, 2}) {
            due("isn't worked out", desk.value(0, a, 0), NONE);
            due("has no number", desk.value(0, a, 1), 0);
        }
        due("behind it", desk.value(0, 3, 0), NONE);
        due("an OWN", desk.own(0, 1), true);
        due("hangs on it", desk.demand(0, 0), 2);
        order(desk, 1);
    }

    private static void staysSo() {
        AttributeDesk desk = deskOf("sym S syn v syn w;rule a=S:0.v=own;0.w=1/0;end rule b=S S:0.v=1.v;0.w=1.w;end", "(b 1(a 2))");
        desk.demand(0, 0);
        desk.demand(0, 1);
        order(desk, 6, 0, 7, 1);
        // What doesn't read a TREE or change an OWN.
        due("tree with FAULT", Tape.tree(desk, "(b)"), NONE);
        due("tree of an empty tape", desk.tree(), NONE);
        due("grammar with FAULT", Tape.grammar(desk, "sym S;"), NONE);
        due("own of no NODE", desk.own(2, 5), false);
        due("own of no NODE", desk.own(-1, 5), false);
        due("own as it is", desk.own(1, 2), true);
        due("demand", desk.demand(1, 0), 0);
        due("demand of none", desk.demand(0, 2), NONE);
        order(desk, 6, 0, 7, 1);
        due("a number", desk.value(0, 0, 1), 2);
        due("BAD", desk.value(0, 1, 0), 1);
        // An OWN changes, though nothing hangs on it.
        due("own", desk.own(0, 3), true);
        order(desk);
        due("isn't worked out", desk.value(0, 0, 0), NONE);
        due("has no number", desk.value(0, 0, 1), 0);
        due("isn't BAD", desk.value(0, 1, 0), NONE);
        desk.demand(0, 0);
        order(desk, 6, 0);
        // A TREE is read, though it is the same.
        due("tree", Tape.tree(desk, "(b 3(a 2))"), 2);
        order(desk);
        due("isn't worked out", desk.value(0, 0, 0), NONE);
        due("has no number", desk.value(0, 0, 1), 0);
        desk.demand(0, 0);
        due("grammar", Tape.grammar(desk, "sym S syn v syn w;rule a=S:0.v=own;0.w=1;end"), 1);
        order(desk);
        due("tree", Tape.tree(desk, "(a 9)"), 1);
        due("isn't worked out", desk.value(0, 0, 0), NONE);
        due("demand", desk.demand(0, 0), 0);
        due("a number", desk.value(0, 0, 1), 9);
    }
}
