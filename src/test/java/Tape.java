/** Puts texts on the tape of an AttributeDesk; for the tests. */
final class Tape {
    private Tape() {
    }

    /** Empties the tape, feeds the text and cuts what came behind it. */
    static void put(AttributeDesk desk, String text) {
        desk.end(0);
        for (int i = 0; i < text.length(); i += 20) {
            desk.feed(word(text, i), word(text, i + 4), word(text, i + 8), word(text, i + 12), word(text, i + 16));
        }
        desk.end(text.length());
    }

    static int word(String text, int from) {
        int word = 0;
        for (int i = from; i < from + 4; i++) {
            word = word << 8 | (i < text.length() ? text.charAt(i) & 255 : 32);
        }
        return word;
    }

    static int grammar(AttributeDesk desk, String text) {
        put(desk, text);
        return desk.grammar();
    }

    static int tree(AttributeDesk desk, String text) {
        put(desk, text);
        return desk.tree();
    }
}
