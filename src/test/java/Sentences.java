/**
 * Tests that each bear the words of DOC.md that they are for. Words that DOC.md doesn't have, and words of it
 * that no test bears, are told as wrong, so that a sentence can neither be made up nor be left out.
 */
final class Sentences {
    interface Test {
        void run();
    }

    private static final String LAST = "## Not promised";

    private final String document;
    private final boolean[] borne;
    private int from = 0;
    private int to = 0;
    private int count = 0;

    Sentences(String text) {
        document = text.replaceAll("```[a-z]*", " ").replaceAll("\\s+", " ");
        borne = new boolean[document.length()];
    }

    /** Turns to what stands behind a heading, up to the next one. */
    void part(String heading) {
        int at = document.indexOf(heading);
        if (at < 0) {
            complain("no such heading: " + heading);
            return;
        }
        mark(at, at + heading.length());
        from = at + heading.length();
        to = document.length();
        for (String next : new String[] {"## ", "==== "}) {
            int end = document.indexOf(next, from);
            to = end >= 0 ? Math.min(to, end) : to;
        }
    }

    /** The words stand in the part at hand, and the test finds nothing wrong. */
    void hold(String words, Test test) {
        int at = document.indexOf(words, from);
        if (at < 0 || at + words.length() > to) {
            complain("no such words: " + words);
            return;
        }
        mark(at, at + words.length());
        run(words, test);
    }

    /** The test is for all words of the part at hand. */
    void holdAll(Test test) {
        mark(from, to);
        run(document.substring(from, to), test);
    }

    /** How many tests have run; complains of words ahead of the last part that no test bears. */
    int finish() {
        int end = document.indexOf(LAST);
        for (int i = 0; i < end; i++) {
            if (isOpen(i)) {
                int last = i;
                while (last < end && !borne[last]) {
                    last++;
                }
                complain("no test for: " + document.substring(i, last));
                i = last;
            }
        }
        return count;
    }

    private boolean isOpen(int at) {
        return !borne[at] && Character.isLetterOrDigit(document.charAt(at));
    }

    private void mark(int first, int behind) {
        for (int i = first; i < behind; i++) {
            borne[i] = true;
        }
    }

    private void run(String words, Test test) {
        int before = Checks.wrong;
        count++;
        try {
            test.run();
        } catch (RuntimeException thrown) {
            complain("thrown: " + thrown);
        }
        if (Checks.wrong > before) {
            System.out.println("  so this doesn't hold: " + words);
        }
    }

    private static void complain(String what) {
        Checks.wrong++;
        System.out.println(what);
    }
}
