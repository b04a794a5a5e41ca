import java.io.IOException;
import java.nio.file.Files;
import java.nio.file.Path;

/** Each sentence of ../shared/DOC.md with a test of its own: what it names as too much, and what is just not. */
public final class SentencesTest {
    public static void main(String[] args) throws IOException {
        if (run() != 0) {
            System.exit(1);
        }
    }

    /** How much is wrong. */
    static int run() throws IOException {
        Sentences all = new Sentences(Files.readString(Path.of("../shared/DOC.md")));
        FaceSentences.tell(all);
        GrammarSentences.tell(all);
        GrammarFaultSentences.tell(all);
        TreeSentences.tell(all);
        DemandSentences.tell(all);
        GraphSentences.tell(all);
        CallSentences.tell(all);
        int count = all.finish();
        System.out.println(Checks.wrong == 0 ? "all " + count + " sentences hold" : Checks.wrong + " answers are wrong");
        return Checks.wrong;
    }
}
