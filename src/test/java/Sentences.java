import java.util.ArrayList;
import java.util.List;

/** Every sentence of the document's Terms, constants and promises, in the document's order. */
public final class Sentences {
    private final List<Sentence> all = new ArrayList<>();
    private String where = "";

    private Sentences() {
    }

    static List<Sentence> all() {
        Sentences sentences = new Sentences();
        SentencesOfTerms.add(sentences);
        SentencesOfPromises.add(sentences);
        return sentences.all;
    }

    void in(String section) {
        where = section;
    }

    Sentence says(String words) {
        Sentence sentence = new Sentence(where, words);
        all.add(sentence);
        return sentence;
    }

    /** A sentence that tells which numbers of a call are refused. */
    Sentence refuses(String call, String words) {
        return says(words).by(() -> RefusalsTest.refusalsOf(call));
    }

    /** Throws at the first wrong answer; public, for it is called from another loader of classes. */
    public static void test(int place) {
        Due.stopAtTheFirst();
        all().get(place).tests.forEach(Runnable::run);
    }
}
