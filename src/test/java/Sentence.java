import java.util.ArrayList;
import java.util.List;

/** A sentence of the document, word by word; the tests of it; and changes of the class that break it. */
final class Sentence {
    /** The only piece of code like this, or the only one in a method, and what breaks the sentence there. */
    record Break(String method, String code, String instead) {
    }

    final String where;
    final String words;
    final List<Runnable> tests = new ArrayList<>();
    final List<Break> breaks = new ArrayList<>();

    Sentence(String where, String words) {
        this.where = where;
        this.words = words;
    }

    Sentence by(Runnable... more) {
        tests.addAll(List.of(more));
        return this;
    }

    Sentence broken(String code, String instead) {
        return brokenIn("", code, instead);
    }

    /** The method is named by a beginning of its head, as "int men(". */
    Sentence brokenIn(String method, String code, String instead) {
        breaks.add(new Break(method, code, instead));
        return this;
    }
}
