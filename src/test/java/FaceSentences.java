import java.lang.reflect.Field;
import java.lang.reflect.Method;
import java.lang.reflect.Modifier;
import java.util.Arrays;
import java.util.Set;
import java.util.TreeSet;

/** The sentences ahead of the Terms: what the class is, and its face. */
final class FaceSentences extends Checks {
    private static final Set<String> FACE = Set.of("int feed(int, int, int, int, int)", "int end(int)", "int grammar()",
            "int tree()", "int fault(int)", "int symbol(int, int)", "int graph(int, int)", "int rule(int, int)",
            "int test(int)", "int node(int, int)", "boolean own(int, int)", "int demand(int, int)",
            "int value(int, int, int)", "int order(int)", "int about(int)");

    static void tell(Sentences all) {
        all.part("# AttributeDesk");
        all.part("## What it is");
        all.hold("Attribute grammars as Knuth told them (1968, with the correction of 1971): symbols with attributes "
                + "that come from above or from below, rules with an equation for each, read from texts; Knuth's exact "
                + "test whether some tree goes round, and the plain one that takes all ways together; trees read from "
                + "texts, whose attributes are worked out on demand.", FaceSentences::asKnuthToldThem);
        all.hold("An object is used for at most 512 calls after it has been made; what later calls answer is free.",
                FaceSentences::upTo512Calls);
        all.part("## The public face");
        all.holdAll(FaceSentences::faceAndNoMore);
    }

    /** Knuth's binary numbers: a value from below, a scale from above. */
    private static void asKnuthToldThem() {
        AttributeDesk desk = deskOf("sym N syn v; sym L inh s syn v; sym B inh s syn v; "
                + "rule num = N L : 0.v = 1.v; 1.s = 1; end rule one = L B : 0.v = 1.v; 1.s = 0.s; end "
                + "rule more = L L B : 0.v = 1.v + 2.v; 1.s = 0.s * 2; 2.s = 0.s; end "
                + "rule bit = B : 0.v = own * 0.s; end",
                "(num(more(more(more(one(bit 1))(bit 1))(bit 0))(bit 1)))");
        due("EXACT", desk.test(0), 1);
        due("PLAIN", desk.test(1), 1);
        due("demand", desk.demand(0, 0), 0);
        due("1101", desk.value(0, 0, 1), 13);
        due("the scale of the first bit", desk.value(5, 0, 1), 8);
    }

    private static void upTo512Calls() {
        AttributeDesk desk = new AttributeDesk();
        String text = "sym S;rule a=S:end  ";
        for (int i = 0; i < 256; i++) {
            due("feed " + i, desk.feed(Tape.word(text, 0), Tape.word(text, 4), Tape.word(text, 8), Tape.word(text, 12),
                    Tape.word(text, 16)), 20);
            due("grammar " + i, desk.grammar(), 1);
        }
        desk = new AttributeDesk();
        text = "sym S syn v;rule a=S:0.v=own+1;end      ";
        for (int i = 0; i < 40; i += 20) {
            desk.feed(Tape.word(text, i), Tape.word(text, i + 4), Tape.word(text, i + 8), Tape.word(text, i + 12),
                    Tape.word(text, i + 16));
        }
        due("grammar", desk.grammar(), 1);
        desk.feed(Tape.word("(a) ", 0), Tape.word("", 0), Tape.word("", 0), Tape.word("", 0), Tape.word("", 0));
        due("tree", desk.tree(), 1);
        // 5 calls so far, and three in each turn.
        for (int i = 1; i <= 169; i++) {
            due("own " + i, desk.own(0, i), true);
            due("demand " + i, desk.demand(0, 0), 0);
            due("value " + i, desk.value(0, 0, 1), i + 1);
        }
    }

    private static void faceAndNoMore() {
        Class<?> desk = AttributeDesk.class;
        due("public and final", desk.getModifiers(), Modifier.PUBLIC | Modifier.FINAL);
        due("without a package", desk.getPackageName().isEmpty(), true);
        due("one constructor", desk.getDeclaredConstructors().length, 1);
        due("it is public", Modifier.isPublic(desk.getDeclaredConstructors()[0].getModifiers()), true);
        due("without parameters", desk.getDeclaredConstructors()[0].getParameterCount(), 0);
        Set<String> methods = new TreeSet<>();
        for (Method method : desk.getDeclaredMethods()) {
            if (!Modifier.isPrivate(method.getModifiers())) {
                due(method + " is public and of an object", method.getModifiers(), Modifier.PUBLIC);
                String with = Arrays.toString(method.getParameterTypes());
                methods.add(method.getReturnType() + " " + method.getName() + "("
                        + with.substring(1, with.length() - 1) + ")");
            }
        }
        due("methods " + methods, methods.equals(FACE), true);
        for (Field field : desk.getDeclaredFields()) {
            boolean isNone = field.getName().equals("NONE");
            due(field + " is private but for NONE", Modifier.isPrivate(field.getModifiers()), !isNone);
            int asDue = Modifier.PUBLIC | Modifier.STATIC | Modifier.FINAL;
            due("NONE is public static final", !isNone || field.getModifiers() == asDue, true);
            due("NONE is an int", !isNone || field.getType() == int.class, true);
        }
        due("NONE", AttributeDesk.NONE, -1);
    }
}
