/** What the tests of single answers share: the answers that are due, and texts with the place of a FAULT marked. */
class Checks {
    static final int NONE = AttributeDesk.NONE;
    static final int MOST = Integer.MAX_VALUE;
    static final int LEAST = Integer.MIN_VALUE;

    static int wrong = 0;

    static void due(String what, long got, long want) {
        if (got != want) {
            wrong++;
            System.out.println(what + ": answered " + got + ", due is " + want);
        }
    }

    static void due(String what, boolean got, boolean want) {
        due(what, got ? 1 : 0, want ? 1 : 0);
    }

    /** The grammar has the FAULT at the place, on a new object and behind another grammar. */
    static void fault(String text, int fault, int place) {
        AttributeDesk desk = new AttributeDesk();
        due("grammar " + text, Tape.grammar(desk, text), NONE);
        due("FAULT of " + text, desk.fault(0), fault);
        due("place of " + text, desk.fault(1), place);
        due("RULES behind " + text, desk.about(2), 0);
    }

    /** The grammar has the FAULT where the | stands in the text. */
    static void faultAt(String text, int fault) {
        fault(text.replace("|", ""), fault, text.indexOf('|'));
    }

    static void fine(String text, int rules) {
        AttributeDesk desk = new AttributeDesk();
        due("grammar " + text, Tape.grammar(desk, text), rules);
        due("FAULT of " + text, desk.fault(0), 0);
        due("place of " + text, desk.fault(1), NONE);
    }

    /** An E of a RULE whose HEAD has a synthesized v and w and whose CHILD has an inherited i and a synthesized s. */
    static String around(String e) {
        return "sym S syn v syn w; sym X inh i syn s; rule x = X : 0.s = 0.i; end "
                + "rule a = S X : 0.w = 1.s; 1.i = 7; 0.v = " + e + "; end";
    }

    static void faultIn(String e, int fault) {
        faultAt(around(e), fault);
    }

    static void fineIn(String e) {
        fine(around(e), 2);
    }

    /** What 0.v comes to; own is 5, 0.w and 1.s and 1.i are 7. */
    static void comesTo(String e, int outcome, int number) {
        AttributeDesk desk = new AttributeDesk();
        due("grammar with " + e, Tape.grammar(desk, around(e)), 2);
        due("tree with " + e, Tape.tree(desk, "(a 5 (x 11))"), 2);
        due("outcome of " + e, desk.demand(0, 0), outcome);
        due("kind of " + e, desk.value(0, 0, 0), outcome);
        due("number of " + e, desk.value(0, 0, 1), number);
    }

    static AttributeDesk deskOf(String grammar, String tree) {
        AttributeDesk desk = deskOf(grammar);
        due("tree " + tree, Tape.tree(desk, tree) > 0, true);
        return desk;
    }

    static AttributeDesk deskOf(String grammar) {
        AttributeDesk desk = new AttributeDesk();
        due("grammar " + grammar, Tape.grammar(desk, grammar) > 0, true);
        return desk;
    }

    static void tests(AttributeDesk desk, int exact, int plain) {
        due("EXACT", desk.test(0), exact);
        due("PLAIN", desk.test(1), plain);
    }

    static String times(String part, int count) {
        StringBuilder all = new StringBuilder();
        for (int i = 0; i < count; i++) {
            all.append(part);
        }
        return all.toString();
    }

    static String letter(int i) {
        return String.valueOf((char) ('a' + i));
    }

    /** So many n around one another, each with two leaves, and a leaf in the innermost: 3 times so many NODES and 1. */
    static String nest(int count) {
        return times("(n(l)(l)", count) + "(l)" + times(")", count);
    }

    /** The TREE has the FAULT where the | stands in the text. */
    static void treeFault(String grammar, String text, int fault) {
        AttributeDesk desk = deskOf(grammar);
        due("tree " + text, Tape.tree(desk, text.replace("|", "")), NONE);
        due("FAULT of tree " + text, desk.fault(0), fault);
        due("place of tree " + text, desk.fault(1), text.indexOf('|'));
        due("no NODES", desk.about(3), 0);
    }
}
