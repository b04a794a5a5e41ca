import java.util.ArrayList;
import java.util.Arrays;
import java.util.List;

/**
 * Every text of a few TOKENS: each that may go on is gone on with by every TOKEN, and FAULT, place and what
 * the text comes to are held against DeskModel.
 */
public final class ShortTextsTest {
    private static final int TEXTS = 6000;
    /** What an object answers behind 512 calls is free; no text here takes so many as lack to that. */
    private static final int CALLS_OF_ONE_OBJECT = 400;

    /** Of each row the first is how the texts begin, all others go on with. */
    private static final String[][] GRAMMARS = {
        {"", "sym", "inh", "syn", "rule", "end", "own", "if", "S", "X", "a", ";", ":", "=", ".", "(", "0", "2", "?"},
        {"sym", "sym", "syn", "inh", "rule", "S", "T", "sym S;", "rule S = S :", "end", "0.S = 0;"},
        {"sym S ; rule", "S", "X", ";", ":", "=", "rule", "sym", "end", "0", "."},
        {"sym S syn a syn b; rule a = S S :", "0.a = 1;", "0.b = 0.a;", "1.a", "2.a", "0.i", "=", ".", "1", "end", "rule",
            "rule b = S :"},
        {"sym S; sym X inh i inh a syn s; rule S = S X X :", "1.i = 1.s;", "1.a = 2;", "2.i = 2.a;", "2.a = 1.i;", "0.i",
            "1.s", "3.i", "end", "rule X = X : 0.s = 1; end", "; ", "?"},
        {"sym S inh i; sym X inh a; rule S = X :", "1.a = 0.i;", "1.i = 0.a;", "0.a", "1.i", "end", "rule X = S :", "sym",
            ";"}};
    private static final String[] FOR_ES = {"1", "0", "2147483647", "2147483648", "own", "0.a", "0 . b", "1.s", "1.a", "2.s",
        ".", "s", "if", "then", "else", "(", ")", "-", "+", "*", "/", "%", "<", "=", ";", "end", ":"};
    private static final String[] FOR_TREES = {"(", ")", "a", "b", "c", "d", "own", "7", "2147483648", "-"};

    private static final String BEFORE_E = "sym S syn a syn b; sym X inh i syn s; rule d = X : 0.s = 0.i + 3; end "
        + "rule r = S X : 1.i = 7; 0.b = own / 2; 0.a = ";
    private static final String BEHIND_E = " end";
    private static final String[] TREES_OF_E = {"(r (d))", "(r 1 (d))", "(r 2147483647 (d))"};
    private static final String GRAMMAR_OF_TREES = "sym S syn v; sym X syn v; rule a = S : 0.v = own; end "
        + "rule b = X S : 0.v = 1.v; end rule c = S X S X : 0.v = own - 3.v; end rule d = X : 0.v = 0 - own; end";

    private static int wrong = 0;

    private final int most;
    private AttributeDesk desk = new AttributeDesk();
    private DeskModel model = new DeskModel();
    private int calls = 0;
    private String text = "";

    private ShortTextsTest(int texts) {
        most = texts;
    }

    public static void main(String[] args) {
        int texts = args.length > 0 ? Integer.parseInt(args[0]) : TEXTS;
        for (String[] words : GRAMMARS) {
            new ShortTextsTest(texts).goOn("grammars", words[0], Arrays.copyOfRange(words, 1, words.length));
        }
        new ShortTextsTest(texts).goOn("Es", BEFORE_E, FOR_ES);
        new ShortTextsTest(texts).goOn("TREES", "", FOR_TREES);
        System.out.println(wrong == 0 ? "all short texts are read as the model reads them" : wrong + " answers are wrong");
        if (wrong != 0) {
            System.exit(1);
        }
    }

    private void goOn(String what, String start, String[] tokens) {
        boolean hasE = what.equals("Es");
        boolean hasTree = what.equals("TREES");
        if (hasTree) {
            readGrammar(GRAMMAR_OF_TREES);
        }
        List<String> open = new ArrayList<>();
        open.add(start);
        int faultless = 0;
        int texts = 0;
        for (; texts < open.size() && texts < most && wrong < 10; texts++) {
            text = open.get(texts);
            takeObject(hasTree);
            boolean stands = hasTree ? readTree() : hasE && text.endsWith(";") ? readE() : readGrammar(text);
            faultless += stands ? 1 : 0;
            // What has no FAULT ahead of its end may go on.
            boolean goesOn = stands ? !hasE : model.fault(1) == text.length();
            for (int i = 0; i < tokens.length && goesOn && open.size() < most; i++) {
                open.add(text + (text.isEmpty() ? "" : " ") + tokens[i]);
            }
        }
        System.out.println("  " + what + ": " + texts + ", without a FAULT " + faultless + ", the last: " + text);
    }

    private void takeObject(boolean hasTree) {
        if (calls < CALLS_OF_ONE_OBJECT) {
            return;
        }
        desk = new AttributeDesk();
        model = new DeskModel();
        calls = 0;
        if (hasTree) {
            readGrammar(GRAMMAR_OF_TREES);
        }
    }

    private boolean readGrammar(String grammar) {
        put(grammar);
        same("grammar()", desk.grammar(), model.grammar());
        faults();
        return model.fault(0) == 0;
    }

    private boolean readE() {
        boolean stands = readGrammar(text + BEHIND_E);
        for (int i = 0; i < TREES_OF_E.length && stands; i++) {
            put(TREES_OF_E[i]);
            same("tree()", desk.tree(), model.tree());
            same("demand(0, 0)", desk.demand(0, 0), model.demand(0, 0));
            same("value(0, 0, 1)", desk.value(0, 0, 1), model.value(0, 0, 1));
            same("about(4)", desk.about(4), model.about(4));
            same("order(0)", desk.order(0), model.order(0));
        }
        return stands;
    }

    private boolean readTree() {
        put(text);
        same("tree()", desk.tree(), model.tree());
        faults();
        for (int n = 0; n < 3; n++) {
            same("node(" + n + ", 1)", desk.node(n, 1), model.node(n, 1));
            same("node(" + n + ", 3)", desk.node(n, 3), model.node(n, 3));
            same("demand(" + n + ", 0)", desk.demand(n, 0), model.demand(n, 0));
            same("value(" + n + ", 0, 1)", desk.value(n, 0, 1), model.value(n, 0, 1));
        }
        return model.fault(0) == 0;
    }

    private void faults() {
        same("fault(0)", desk.fault(0), model.fault(0));
        same("fault(1)", desk.fault(1), model.fault(1));
    }

    private void put(String what) {
        for (int i = 0; i < what.length(); i += 20) {
            int[] words = new int[5];
            for (int k = 0; k < 5; k++) {
                words[k] = Tape.word(what, i + 4 * k);
            }
            same("feed", desk.feed(words[0], words[1], words[2], words[3], words[4]), model.feed(words));
        }
        same("end", desk.end(what.length()), model.end(what.length()));
    }

    private void same(String call, int got, int want) {
        calls++;
        if (got != want || calls > 512) {
            wrong++;
            System.out.println(text + ": call " + calls + ", " + call + ", answered " + got + ", the model " + want);
        }
    }
}
