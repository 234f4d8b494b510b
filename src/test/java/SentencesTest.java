import java.io.IOException;
import java.nio.file.Files;
import java.nio.file.Path;
import java.util.LinkedHashMap;
import java.util.Map;
import java.util.regex.Matcher;
import java.util.regex.Pattern;

/**
 * Every sentence of the document's Terms, constants and promises, word by word, has a test: what
 * Sentences has of each section is all that DOC.md says there.
 */
public final class SentencesTest {
    private static final Path DOCUMENT = Path.of("../shared/DOC.md");
    private static final int PROMISES = 34, PARTS = 5;
    private static final Due DUE = new Due();

    public static void main(String[] args) throws IOException {
        Map<String, String> due = sectionsOf(Files.readString(DOCUMENT));
        DUE.due("sections: Terms, their parts, the constants, promises", 1 + PARTS + 1 + PROMISES, due.size());
        Map<String, String> got = new LinkedHashMap<>();
        for (Sentence sentence : Sentences.all()) {
            got.merge(sentence.where, sentence.words, (a, b) -> a + " " + b);
            DUE.holds("a test of \"" + sentence.words + "\"", !sentence.tests.isEmpty());
        }
        DUE.holds("the sections " + due.keySet() + " and no other: " + got.keySet(),
                due.keySet().equals(got.keySet()));
        due.forEach((where, text) -> DUE.holds(where + " says: " + text + "\n  and is tested for: " + got.get(where),
                text.equals(got.get(where))));
        DUE.end();
    }

    private static Map<String, String> sectionsOf(String document) {
        Map<String, String> all = new LinkedHashMap<>();
        String terms = between(document, "## Terms\n", "\nThe constants:");
        String[] parts = terms.split("======== ");
        all.put("Terms", plain(parts[0]));
        for (int i = 1; i < parts.length; i++) {
            all.put("Terms " + parts[i].charAt(0), plain(parts[i].substring(1)));
        }
        String constants = between(document, "\nThe constants: ", "\nAhead of the calls");
        all.put("Constants", plain(constants.replaceAll("`[^`]*`: ", "")));
        Matcher promise = Pattern.compile("## Promise (\\d+): .*\\n\\n`[^`]*`: (.*)\\n").matcher(document);
        while (promise.find()) {
            all.put("Promise " + promise.group(1), plain(promise.group(2)));
        }
        return all;
    }

    private static String between(String text, String begin, String end) {
        int from = text.indexOf(begin);
        int to = text.indexOf(end, from + 1);
        if (from < 0 || to < 0) {
            throw new IllegalStateException(DOCUMENT + " has nothing from " + begin + " to " + end);
        }
        return text.substring(from + begin.length(), to);
    }

    private static String plain(String text) {
        return text.replaceAll("```(text)?", " ").replaceAll("\\s+", " ").trim();
    }
}
