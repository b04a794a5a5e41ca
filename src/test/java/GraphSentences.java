/** The sentences of III. TESTS. */
final class GraphSentences extends Checks {
    /** A symbol with all nine pairs of attributes, whose numbers are those of all three inherited ones by turns. */
    private static final String NINE = "sym S syn v;sym X inh a inh b inh c syn d syn e syn f;";
    private static final String DOWN = "1.a=0.a;1.b=0.b;1.c=0.c;";

    static void tell(Sentences all) {
        all.part("==== III. TESTS.");
        all.hold("An IO-GRAPH of a symbol: for each inherited and synthesized attribute of it whether the latter one hangs "
                + "on the former one,", GraphSentences::hangsOn);
        all.hold("in a TREE of a NODE of that symbol, by what stands in it and below;", GraphSentences::inItAndBelow);
        all.hold("as a number: 2 to the power of (that of the inherited one, by order among the inherited, times how many "
                + "are synthesized, and that of the synthesized one among these), all together.",
                GraphSentences::asANumber);
        all.hold("GRAPHS of a symbol: those of all TREES that it can have (none, if it can have none).",
                GraphSentences::ofAllTrees);
        all.hold("The EXACT test: GOES ROUND if a RULE that can come in a TREE of the first symbol has,",
                GraphSentences::thatCanCome);
        all.hold("by its EQUATIONS and one of the GRAPHS of each CHILD, a way round.", GraphSentences::byOneOfEach);
        all.hold("TOO LARGE: the numbers of GRAPHS of the CHILDREN of some RULE, multiplied, are above 2,000",
                GraphSentences::above2000);
        all.hold("(then it is told of all).", GraphSentences::toldOfAll);
        all.hold("The PLAIN test: each symbol has one graph, the least for which: what a RULE's EQUATIONS with the "
                + "CHILDREN's graphs lead to is in the HEAD's;", GraphSentences::leastGraph);
        all.hold("GOES ROUND if a RULE has a way round by these.", GraphSentences::roundByPlain);
        all.hold("(All RULES count.)", GraphSentences::allRulesCount);
        all.hold("The constants: `NONE = -1`: None.", () -> due("NONE", AttributeDesk.NONE, -1));
    }

    /** The symbol has these GRAPHS and none more. */
    private static void graphs(AttributeDesk desk, int symbol, int... due) {
        due("GRAPHS of " + symbol, desk.symbol(symbol, 2), due.length);
        for (int i = 0; i < due.length; i++) {
            due("GRAPH " + i + " of " + symbol, desk.graph(symbol, i), due[i]);
        }
        due("none behind those of " + symbol, desk.graph(symbol, due.length), NONE);
    }

    private static void hangsOn() {
        String symbols = "sym S;sym X inh i inh j syn s syn t;";
        graphs(deskOf(symbols + "rule x=X:0.s=1;0.t=own;end"), 1, 0);
        graphs(deskOf(symbols + "rule x=X:0.s=0.i;0.t=own;end"), 1, 1);
        graphs(deskOf(symbols + "rule x=X:0.s=1;0.t=-(2*0.i);end"), 1, 2);
        graphs(deskOf(symbols + "rule x=X:0.s=0.j;0.t=1;end"), 1, 4);
        graphs(deskOf(symbols + "rule x=X:0.s=1;0.t=0<0.j;end"), 1, 8);
        graphs(deskOf(symbols + "rule x=X:0.s=0.i+0.j;0.t=0.j*0.i;end"), 1, 15);
        graphs(deskOf(symbols + "rule x=X:0.s=if 0.i then 1 else 2;0.t=if 1 then 2 else 0.j;end"), 1, 9);
        // By way of one that is synthesized in the RULE itself, and of one of these again.
        graphs(deskOf(symbols + "rule x=X:0.s=0.t;0.t=0.i;end"), 1, 3);
        graphs(deskOf("sym S;sym X inh i syn s syn t syn u;rule x=X:0.s=0.t;0.t=0.u;0.u=0.i;end"), 1, 7);
        graphs(deskOf("sym S;sym X inh i syn s syn t syn u;rule x=X:0.u=0.t;0.t=0.s;0.s=0.i;end"), 1, 7);
        graphs(deskOf("sym S;sym X syn s syn t inh i;rule x=X:0.t=0.s;0.s=0.i;end"), 1, 3);
        graphs(deskOf("sym S;sym X syn s syn t inh i;rule x=X:0.s=0.t;0.t=0.i;end"), 1, 3);
        // What is synthesized on itself, or on another one, is none of it.
        graphs(deskOf(symbols + "rule x=X:0.s=0.t;0.t=0.s;end"), 1, 0);
        graphs(deskOf("sym S;sym X syn s syn t;rule x=X:0.s=0.t;0.t=1;end"), 1, 0);
        graphs(deskOf("sym S;sym X inh i inh j;rule x=X:end"), 1, 0);
        graphs(deskOf("sym S;rule s=S:end"), 0, 0);
    }

    private static void inItAndBelow() {
        String symbols = "sym S syn v;sym X inh i inh j syn s syn t;sym Y inh i syn s;";
        // Not by what stands above: there t hangs on i by way of j.
        AttributeDesk desk = deskOf(symbols + "rule r=S X:0.v=1.t;1.i=1;1.j=1.s;end rule x=X:0.s=0.i;0.t=0.j;end");
        graphs(desk, 1, 9);
        graphs(desk, 0, 0);
        // By what stands below: i is handed down, comes up again as s and goes down as j.
        desk = deskOf(symbols + "rule y=Y X:0.s=1.t;1.i=0.i;1.j=1.s;end rule x=X:0.s=0.i;0.t=0.j;end");
        graphs(desk, 2, 1);
        graphs(desk, 1, 9);
        // From one CHILD to the next, and to the third.
        String leaf = "rule y=Y:0.s=0.i;end ";
        desk = deskOf(symbols + leaf + "rule x=X Y Y Y:0.s=3.s;0.t=2.s;3.i=2.s;2.i=1.s;1.i=0.j;end");
        graphs(desk, 1, 12);
        desk = deskOf(symbols + "rule y=Y:0.s=0*own;end rule x=X Y Y Y:0.s=3.s;0.t=2.s;3.i=2.s;2.i=1.s;1.i=0.j;end");
        graphs(desk, 1, 0);
        // Wherever they stand among the attributes of the CHILD and of the HEAD.
        for (String order : new String[] {"inh i syn s syn t", "syn s inh i syn t", "syn t syn s inh i", "syn s syn t inh i"}) {
            desk = deskOf("sym S;sym X " + order + ";sym Y syn s inh i;sym Z inh i syn s;rule x=X:0.s=0.i;0.t=1;end "
                    + "rule y=Y X:0.s=1.s;1.i=0.i;end rule z=Z X Y:0.s=2.s;2.i=1.s;1.i=0.i;end");
            graphs(desk, 2, 1);
            graphs(desk, 3, 1);
            due("plain", desk.symbol(2, 3), 1);
            due("plain", desk.symbol(3, 3), 1);
        }
        // Two and more levels below.
        desk = deskOf("sym A;sym B inh i syn s;sym C inh i syn s;sym D inh i syn s;rule b=B C:0.s=1.s;1.i=0.i;end "
                + "rule c=C D:0.s=1.s;1.i=0.i;end rule d=D:0.s=0.i;end");
        for (int s = 1; s <= 3; s++) {
            graphs(desk, s, 1);
        }
    }

    private static void asANumber() {
        // By turns, so that the order among all is another than that among the inherited.
        for (int inherited = 0; inherited <= 6; inherited++) {
            for (int synthesized = 0; inherited + synthesized <= 6; synthesized++) {
                StringBuilder symbol = new StringBuilder("sym S;sym X");
                for (int k = 0; k < 6; k++) {
                    symbol.append(k < synthesized ? " syn s" + letter(k) : "").append(k < inherited ? " inh i" + letter(k) : "");
                }
                for (int i = 0; i < inherited; i++) {
                    for (int s = 0; s < synthesized; s++) {
                        StringBuilder rule = new StringBuilder(";rule x=X:");
                        for (int k = 0; k < synthesized; k++) {
                            rule.append("0.s").append(letter(k)).append(k == s ? "=0.i" + letter(i) : "=1").append(';');
                        }
                        AttributeDesk desk = deskOf(symbol + rule.append("end").toString());
                        graphs(desk, 1, 1 << (i * synthesized + s));
                        due("plain", desk.symbol(1, 3), 1 << (i * synthesized + s));
                    }
                }
            }
        }
        // All together: the highest number.
        AttributeDesk desk = deskOf(NINE + "rule x=X:0.d=0.a+0.b+0.c;0.e=0.a+0.b+0.c;0.f=0.a+0.b+0.c;end");
        graphs(desk, 1, 511);
        desk = deskOf(NINE + "rule x=X:0.d=0.a;0.e=0.b;0.f=0.c;end");
        graphs(desk, 1, 1 + 16 + 256);
    }

    /** A RULE that brings, of the nine pairs, those of the graph; above a CHILD of the same symbol also what that one has. */
    private static String nineRule(String name, int graph, boolean hasChild) {
        StringBuilder text = new StringBuilder("rule ").append(name).append(hasChild ? "=X X:" + DOWN : "=X:");
        for (int s = 0; s < 3; s++) {
            text.append("0.").append(letter(3 + s)).append(hasChild ? "=1." + letter(3 + s) : "=1");
            for (int i = 0; i < 3; i++) {
                text.append((graph >> (3 * i + s) & 1) != 0 ? "+0." + letter(i) : "");
            }
            text.append(';');
        }
        return text.append("end ").toString();
    }

    /** RULES by which X has all 512 GRAPHS: one without any pair of attributes, and for each pair one that brings it. */
    private static String all512() {
        StringBuilder text = new StringBuilder(nineRule("x", 0, false));
        for (int bit = 8; bit >= 0; bit--) {
            text.append(nineRule("n" + letter(bit), 1 << bit, true));
        }
        return text.toString();
    }

    private static void ofAllTrees() {
        for (int part = 0; part < 2; part++) {
            AttributeDesk desk = deskOf(NINE + all512());
            due("all of them", desk.symbol(1, 2), 512);
            for (int i = 256 * part; i < 256 * (part + 1); i++) {
                due("GRAPH " + i, desk.graph(1, i), i);
            }
            due("none behind", desk.graph(1, 512), NONE);
            due("EXACT", desk.test(0), 1);
        }
        // A TREE of each height has another one, till they come again.
        AttributeDesk desk = deskOf(NINE + "rule x=X:0.d=0.a;0.e=0.b;0.f=0.c;end rule r=X X:0.d=1.e;0.e=1.f;0.f=1.d;"
                + DOWN + "end rule s=X X:0.d=1.e;0.e=1.d;0.f=1.f;" + DOWN + "end");
        graphs(desk, 1, 84, 98, 140, 161, 266, 273);
        // Each once, though many TREES have it.
        desk = deskOf("sym S;sym X inh i syn s;rule a=X:0.s=0.i;end rule b=X:0.s=-0.i;end rule c=X X:0.s=1.s;1.i=0.i;end "
                + "rule d=X X X:0.s=1.s+2.s;1.i=0.i;2.i=1;end");
        graphs(desk, 1, 1);
        // In whatever order the RULES stand, and though others behind them bring nothing new.
        String leaf = "rule x=X:0.s=0.i;end ";
        String more = "rule n=X X:0.s=1.s+0.j;1.i=0.i;1.j=0.j;end ";
        String other = "rule m=X X Y:0.s=2.s;1.i=1;1.j=1;2.i=1.s;end ";
        String none = "rule y=Y:0.s=1;end rule z=X:0.s=0.i;end rule w=X Y:0.s=1.s+0.i;1.i=1;end ";
        for (String rules : new String[] {leaf + more + other + none, none + other + more + leaf, more + leaf + none + other,
                other + more + none + leaf, more + other + leaf + none, none + leaf + more + other}) {
            desk = deskOf("sym S;sym X inh i inh j syn s;sym Y inh i syn s;" + rules);
            graphs(desk, 1, 0, 1, 2, 3);
            graphs(desk, 2, 0);
        }
        // None of a symbol that has no RULE, or whose TREES would never end; of one that needs such a one.
        desk = deskOf("sym S syn v;sym X inh i syn s;sym Y inh i syn s;sym Z syn v;sym T inh i syn s;rule s=S:0.v=1;end "
                + "rule y=Y Y:0.s=0.i;1.i=0.i;end rule z=Z Y:0.v=1;1.i=1;end rule t=T:0.s=0.i;end "
                + "rule u=T T X:0.s=1;1.i=1;2.i=1;end rule w=S Y:0.v=1;1.i=1;end");
        graphs(desk, 0, 0);
        graphs(desk, 1);
        graphs(desk, 2);
        graphs(desk, 3);
        // T can't come in a TREE of the first symbol, but has TREES.
        graphs(desk, 4, 1);
    }

    private static void thatCanCome() {
        String symbols = "sym S syn v;sym X inh i syn s;sym Y inh i syn s;";
        String round = "1.i=1.s;end ";
        String leaf = "rule x=X:0.s=0.i;end ";
        tests(deskOf(symbols + leaf + "rule a=S X:0.v=1;" + round), 0, 0);
        tests(deskOf(symbols + leaf + "rule a=S:0.v=1;end rule b=S X:0.v=1;" + round), 0, 0);
        // A RULE of a symbol that no TREE of the first one reaches.
        AttributeDesk desk = deskOf(symbols + leaf + "rule a=S:0.v=1;end rule y=Y X:0.s=1;" + round);
        tests(desk, 1, 0);
        due("can't come", desk.rule(2, 3), 0);
        due("goes round", desk.rule(2, 5), 1);
        // Reached by a RULE alone that can't come itself: its other CHILD has no TREE.
        desk = deskOf("sym S syn v;sym X inh i syn s;sym Y inh i syn s;sym Z;" + leaf + "rule a=S:0.v=1;end rule y=Y X:0.s=1;"
                + round + "rule b=S Y Z:0.v=1;1.i=1;end");
        tests(desk, 1, 0);
        due("can't come", desk.rule(2, 3), 0);
        due("can't come", desk.rule(3, 3), 0);
        // The RULE has a CHILD without a TREE.
        desk = deskOf(symbols + leaf + "rule a=S:0.v=1;end rule b=S X Y:0.v=1;2.i=1;" + round);
        tests(desk, 1, 0);
        due("can't come", desk.rule(2, 3), 0);
        // Far below the first symbol, and by a RULE that stands ahead.
        desk = deskOf("sym A syn v;sym B syn v;sym C syn v;sym D syn v;rule d=D:0.v=0.v;end rule c=C D:0.v=1;end "
                + "rule b=B C:0.v=1;end rule a=A B:0.v=1;end");
        tests(desk, 0, 0);
        due("can come", desk.rule(0, 3), 1);
        due("no TREE of the first at all", deskOf("sym S syn v;rule a=S S:0.v=0.v;end").test(0), 1);
    }

    private static void byOneOfEach() {
        String symbols = "sym S syn v;sym X inh i inh j syn s syn t;";
        String across = "rule r=S X:0.v=1;1.i=1.t;1.j=1.s;end ";
        String down = "rule x=X:0.s=0.i;0.t=1;end ";
        String up = "rule y=X:0.s=1;0.t=0.j;end ";
        // By its EQUATIONS alone.
        tests(deskOf("sym S syn v;rule a=S:0.v=0.v;end"), 0, 0);
        tests(deskOf("sym S syn v syn w;rule a=S:0.v=0.w;0.w=0.v;end"), 0, 0);
        tests(deskOf("sym S syn v syn w;rule a=S:0.v=0.w;0.w=1;end"), 1, 1);
        tests(deskOf("sym S syn v;sym X inh i;rule a=S X:0.v=1;1.i=1.i;end rule x=X:end"), 0, 0);
        // Each GRAPH alone has no way round, though both together have one.
        AttributeDesk desk = deskOf(symbols + across + down + up);
        graphs(desk, 1, 1, 8);
        tests(desk, 1, 0);
        tests(deskOf(symbols + across + down), 1, 1);
        tests(deskOf(symbols + across + up), 1, 1);
        desk = deskOf(symbols + across + down + up + "rule z=X:0.s=0.i;0.t=0.j;end");
        graphs(desk, 1, 1, 8, 9);
        tests(desk, 0, 0);
        // Of two CHILDREN another one each; of three the highest each.
        String two = "rule r=S X X:0.v=1;1.i=2.t;1.j=1;2.i=1;2.j=1.s;end ";
        tests(deskOf(symbols + two + down + up), 0, 0);
        tests(deskOf(symbols + two + down), 1, 1);
        tests(deskOf(symbols + two + up), 1, 1);
        String three = "rule r=S X X X:0.v=1;1.i=2.t;1.j=1;2.i=1;2.j=3.s;3.i=1.s;3.j=1;end ";
        tests(deskOf(symbols + three + down + up), 0, 0);
        tests(deskOf(symbols + three + down), 1, 1);
        tests(deskOf(symbols + three + up), 1, 1);
        // One GRAPH of a CHILD with each of many of another, whatever their order.
        String pair = "sym S syn v;sym X inh i syn s;sym Y inh i inh j syn s;";
        String way = "0.v=1;1.i=2.s;2.i=1.s;2.j=1;end ";
        String leaves = "rule x=X:0.s=0.i;end rule y=Y:0.s=1;end rule z=Y:0.s=0.j;end rule w=Y:0.s=0.i;end ";
        tests(deskOf(pair + leaves + "rule r=S X Y:" + way), 0, 0);
        tests(deskOf(pair + "rule r=S X Y:" + way + leaves), 0, 0);
        String turned = way.replace("1.i", "a").replace("1.s", "b").replace("2.", "1.").replace("a", "2.i").replace("b", "2.s");
        tests(deskOf(pair + leaves + "rule r=S Y X:" + turned), 0, 0);
        tests(deskOf(pair + "rule r=S Y X:" + turned + leaves), 0, 0);
        tests(deskOf(pair + "rule r=S Y X:" + turned + leaves.replace("0.s=0.i;end rule y", "0.s=1;end rule y")), 1, 1);
        // One that is found early with one that is found late, at either CHILD.
        String late = "rule l=Y Y:0.s=1.s+0.i;1.i=1;1.j=1;end rule x=X:0.s=0.i;end rule y=Y:0.s=1;end ";
        tests(deskOf(pair + "rule r=S X Y:" + way + late), 0, 0);
        tests(deskOf(pair + "rule r=S Y X:" + turned + late), 0, 0);
        tests(deskOf(pair + "rule r=S X Y:" + way + late + "rule z=X:0.s=1;end"), 0, 0);
        tests(deskOf(pair + "rule r=S Y X:" + turned + late + "rule z=X:0.s=1;end rule q=X X:0.s=1;1.i=1;end"), 0, 0);
        // Once more on an object that has read the same already.
        desk = new AttributeDesk();
        for (int i = 0; i < 3; i++) {
            Tape.grammar(desk, "sym S syn v;sym X inh i syn s;rule r=S X:0.v=1;1.i=1.s;end rule x=X:0.s=0.i;end");
            tests(desk, 0, 0);
            graphs(desk, 1, 1);
        }
        // Way round by what a longer TREE alone brings, found behind the RULE that goes round by it.
        String swap = "rule w=X X:0.s=1.t;0.t=1.s;1.i=0.j;1.j=0.i;end ";
        desk = deskOf("sym S syn v;sym X inh i inh j syn s syn t;rule r=S X:0.v=1;1.i=1;1.j=1.t;end " + down + swap);
        graphs(desk, 1, 1, 8);
        due("round above the longer one", desk.test(0), 0);
    }

    /**
     * RULES by which a symbol has so many GRAPHS: such as double them by a pair each, and a RULE for each GRAPH that
     * is doubled by all of these, or by fewer as it has some of their pairs already.
     */
    private static String wide(String symbol, int count, int doubling) {
        StringBuilder text = new StringBuilder();
        int leaves = 0;
        for (; leaves < count >> doubling; leaves++) {
            text.append(wideRule(symbol, leaves, leaves, false));
        }
        for (int power = doubling - 1; power >= 0; power--) {
            if ((count >> power & 1) != 0) {
                int had = (1 << (doubling - power)) - 1;
                text.append(wideRule(symbol, leaves, leaves + (had << 5), false));
                leaves++;
            }
        }
        for (int k = 0; k < doubling; k++) {
            text.append(wideRule(symbol, leaves + k, 32 << k, true));
        }
        return text.toString();
    }

    private static String wideRule(String symbol, int number, int graph, boolean hasChild) {
        String rule = nineRule(symbol + letter(number), graph, hasChild);
        return rule.replace("=X", "=" + symbol).replace(" X:", " " + symbol + ":");
    }

    /** The first RULE is one of S with these CHILDREN; X, Y and Z have three inherited and three synthesized attributes. */
    private static String wideStart(String children) {
        StringBuilder text = new StringBuilder("sym S;");
        for (String symbol : new String[] {"X", "Y", "Z"}) {
            text.append(NINE.substring(NINE.indexOf("sym X")).replace("X", symbol));
        }
        return text.append(wideParent("r=S", children)).toString();
    }

    private static String wideParent(String head, String children) {
        StringBuilder text = new StringBuilder("rule ").append(head);
        for (String child : children.split("")) {
            text.append(' ').append(child);
        }
        text.append(':');
        for (int k = 1; k <= children.length(); k++) {
            text.append(k).append(".a=1;").append(k).append(".b=1;").append(k).append(".c=1;");
        }
        return text.append("end ").toString();
    }

    private static void above2000() {
        String two = wideStart("XY");
        AttributeDesk desk = deskOf(two + wide("X", 40, 3) + wide("Y", 50, 2));
        due("X", desk.symbol(1, 2), 40);
        due("Y", desk.symbol(2, 2), 50);
        due("2,000", desk.test(0), 1);
        due("2,001", deskOf(two + wide("X", 69, 3) + wide("Y", 29, 2)).test(0), -2);
        due("2,001", deskOf(two + wide("X", 29, 2) + wide("Y", 69, 3)).test(0), -2);
        desk = deskOf(wideStart("YX") + wide("X", 50, 2) + wide("Y", 40, 3));
        due("X", desk.symbol(1, 2), 50);
        due("2,000", desk.test(0), 1);
        String three = wideStart("XYZ");
        desk = deskOf(three + wide("X", 20, 2) + wide("Y", 10, 1) + wide("Z", 10, 1));
        due("X", desk.symbol(1, 2), 20);
        due("Y", desk.symbol(2, 2), 10);
        due("Z", desk.symbol(3, 2), 10);
        due("2,000", desk.test(0), 1);
        due("2,001", deskOf(three + wide("X", 23, 2) + wide("Y", 29, 2) + wide("Z", 3, 0)).test(0), -2);
        due("2,001", deskOf(three + wide("X", 3, 0) + wide("Y", 23, 2) + wide("Z", 29, 2)).test(0), -2);
        // The same symbol twice, or three times.
        desk = deskOf(wideStart("XX") + wide("X", 44, 3));
        due("X", desk.symbol(1, 2), 44);
        due("1,936", desk.test(0), 1);
        due("2,025", deskOf(wideStart("XX") + wide("X", 45, 3)).test(0), -2);
        due("1,728", deskOf(wideStart("XXX") + wide("X", 12, 1)).test(0), 1);
        due("2,197", deskOf(wideStart("XXX") + wide("X", 13, 1)).test(0), -2);
        due("512 times 512 times 512", deskOf(wideStart("XXX") + all512()).test(0), -2);
        // Of one CHILD 512 are not above 2,000; with one that has none, it is 0.
        desk = deskOf(wideStart("X") + all512());
        due("512", desk.symbol(1, 2), 512);
        due("512", desk.test(0), 1);
        due("0 times 29 times 69", deskOf(wideStart("XYZ") + wide("X", 29, 2) + wide("Y", 69, 3)).test(0), 1);
        // Some RULE: also one that can't come in a TREE of the first symbol, or that is the symbol's own.
        due("aside", deskOf(wideStart("X") + wide("X", 45, 3) + wideParent("q=Z", "XX")
                .replace(":", ":0.d=1;0.e=1;0.f=1;")).test(0), -2);
        due("its own", deskOf(wideStart("X") + wide("X", 45, 3) + wideParent("q=X", "XX")
                .replace(":", ":0.d=1;0.e=1;0.f=1;")).test(0), -2);
    }

    private static void toldOfAll() {
        AttributeDesk desk = deskOf(wideStart("XX") + wide("X", 45, 3) + "rule s=S:end rule y=Y:0.d=0.a;0.e=1;0.f=1;end");
        int rules = desk.about(2);
        for (int s = 0; s < 4; s++) {
            due("GRAPHS of " + s, desk.symbol(s, 2), -2);
            due("no GRAPH of " + s, desk.graph(s, 0), NONE);
        }
        due("of none other", desk.symbol(4, 2), NONE);
        for (int r = 0; r < rules; r++) {
            due("way round of " + r, desk.rule(r, 5), -2);
        }
        due("of none other", desk.rule(rules, 5), NONE);
        due("EXACT", desk.test(0), -2);
        // All else is told still.
        due("PLAIN", desk.test(1), 1);
        due("plain graph", desk.symbol(2, 3), 1);
        due("attributes", desk.symbol(1, 0), 6);
        due("can come", desk.rule(0, 3), 1);
        due("way round by the plain graphs", desk.rule(0, 4), 0);
        due("TREE", Tape.tree(desk, "(s)"), 1);
        // A grammar with a FAULT leaves it so, another one doesn't.
        due("FAULT", Tape.grammar(desk, "sym S;"), NONE);
        due("EXACT still", desk.test(0), -2);
        due("another", Tape.grammar(desk, "sym S syn v;rule a=S:0.v=1;end"), 1);
        due("EXACT", desk.test(0), 1);
        graphs(desk, 0, 0);
        due("way round", desk.rule(0, 5), 0);
        due("wide again", Tape.grammar(desk, wideStart("XX") + wide("X", 45, 3)), rules - 2);
        due("EXACT", desk.test(0), -2);
    }

    private static void leastGraph() {
        String symbols = "sym S syn v;sym X inh i inh j syn s syn t;sym Y inh i syn s;";
        String down = "rule x=X:0.s=0.i;0.t=1;end ";
        String up = "rule y=X:0.s=1;0.t=0.j;end ";
        due("none", deskOf(symbols + "rule x=X:0.s=1;0.t=1;end").symbol(1, 3), 0);
        due("of a symbol without RULES", deskOf(symbols + down).symbol(2, 3), 0);
        due("of the first", deskOf(symbols + down).symbol(0, 3), 0);
        due("one", deskOf(symbols + down).symbol(1, 3), 1);
        due("the other one", deskOf(symbols + up).symbol(1, 3), 8);
        due("both", deskOf(symbols + down + up).symbol(1, 3), 9);
        // Through the CHILDREN's plain graphs, though none of their GRAPHS leads through.
        String through = "rule z=Y X:0.s=1.t;1.i=0.i;1.j=1.s;end ";
        AttributeDesk desk = deskOf(symbols + down + up + through);
        due("through", desk.symbol(2, 3), 1);
        graphs(desk, 2, 0);
        desk = deskOf(symbols + through + down + up);
        due("against the order of the RULES", desk.symbol(2, 3), 1);
        due("through but one", deskOf(symbols + down + through).symbol(2, 3), 0);
        // A RULE of the symbol itself brings more, again and again: three by three, but no more than that.
        desk = deskOf(NINE + "rule x=X:0.d=0.a;0.e=0.b;0.f=0.c;end rule r=X X:0.d=1.e;0.e=1.f;0.f=1.d;" + DOWN + "end");
        due("by turns", desk.symbol(1, 3), 511);
        desk = deskOf(NINE + "rule x=X:0.d=0.a;0.e=0.b;0.f=1;end rule r=X X:0.d=1.e;0.e=1.d;0.f=1.f;" + DOWN + "end");
        due("by turns of two", desk.symbol(1, 3), 1 + 2 + 8 + 16);
        // What the HEAD's graph has by other RULES is none of what stands in this one.
        desk = deskOf("sym S;sym X inh i syn s syn t;rule x=X:0.s=0.i;0.t=1;end rule r=X X:0.s=1;1.i=0.s;0.t=1.s;end");
        due("by other RULES", desk.symbol(1, 3), 1);
        // The last of many symbols by the first of many RULES.
        StringBuilder text = new StringBuilder("sym A;");
        StringBuilder rules = new StringBuilder();
        for (int s = 1; s < 12; s++) {
            text.append("sym ").append((char) ('A' + s)).append(" inh i syn s;");
            rules.append("rule ").append(letter(s)).append('=').append((char) ('A' + s)).append(s == 11 ? ":0.s=0.i;end "
                    : " " + (char) ('B' + s) + ":0.s=1.s;1.i=0.i;end ");
        }
        desk = deskOf(text.toString() + rules);
        for (int s = 1; s < 12; s++) {
            due("plain of " + s, desk.symbol(s, 3), 1);
            graphs(desk, s, 1);
        }
    }

    private static void roundByPlain() {
        String symbols = "sym S syn v;sym X inh i inh j syn s syn t;";
        String across = "rule r=S X:0.v=1;1.i=1.t;1.j=1.s;end ";
        AttributeDesk desk = deskOf(symbols + across + "rule x=X:0.s=0.i;0.t=1;end rule y=X:0.s=1;0.t=0.j;end");
        tests(desk, 1, 0);
        due("by these", desk.rule(0, 4), 1);
        due("not by GRAPHS", desk.rule(0, 5), 0);
        due("a leaf", desk.rule(1, 4), 0);
        desk = deskOf(symbols + across + "rule x=X:0.s=0.i;0.t=1;end rule y=X:0.s=0.i;0.t=0.i;end");
        tests(desk, 0, 0);
        due("i and t alone", desk.rule(0, 4), 1);
        desk = deskOf(symbols + across + "rule x=X:0.s=0.i;0.t=1;end rule y=X:0.s=0.j;0.t=1;end");
        tests(desk, 0, 0);
        due("j and s alone", desk.rule(0, 4), 1);
        desk = deskOf(symbols + across + "rule x=X:0.s=0.i;0.t=1;end");
        tests(desk, 1, 1);
        due("neither", desk.rule(0, 4), 0);
        desk = deskOf("sym S syn v syn w;rule a=S:0.v=1;0.w=1;end rule b=S:0.v=0.w;0.w=1;end rule c=S:0.v=0.w;0.w=0.v;end");
        tests(desk, 0, 0);
        int[] round = {0, 0, 1};
        for (int r = 0; r < 3; r++) {
            due("by EQUATIONS alone " + r, desk.rule(r, 4), round[r]);
        }
    }

    private static void allRulesCount() {
        // A RULE that no TREE of the first symbol has; one that has a CHILD without a TREE.
        AttributeDesk desk = deskOf("sym S syn v;sym X syn v;rule a=S:0.v=1;end rule x=X:0.v=0.v;end");
        tests(desk, 1, 0);
        desk = deskOf("sym S syn v;sym X syn v;rule a=S:0.v=1;end rule b=S X:0.v=0.v;end");
        tests(desk, 1, 0);
        due("counts", desk.rule(1, 4), 1);
        // What such a RULE brings to a plain graph counts, too.
        desk = deskOf("sym S syn v;sym X inh i syn s;sym Y;rule a=S X:0.v=1;1.i=1.s;end rule x=X:0.s=1;end "
                + "rule y=X Y:0.s=0.i;end");
        tests(desk, 1, 0);
        due("plain", desk.symbol(1, 3), 1);
        graphs(desk, 1, 0);
        due("by it", desk.rule(0, 4), 1);
        // The 30th of 30.
        StringBuilder text = new StringBuilder("sym S syn v;");
        for (int r = 0; r < 29; r++) {
            text.append("rule ").append(letter(r / 6)).append(letter(r % 6)).append("=S:0.v=1;end ");
        }
        tests(deskOf(text + "rule z=S:0.v=1;end"), 1, 1);
        tests(deskOf(text + "rule z=S:0.v=0.v;end"), 0, 0);
    }
}
