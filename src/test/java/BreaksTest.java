import java.io.IOException;
import java.lang.reflect.InvocationTargetException;
import java.nio.file.Files;
import java.nio.file.Path;
import java.util.ArrayList;
import java.util.List;
import java.util.regex.Matcher;
import java.util.regex.Pattern;
import java.util.stream.IntStream;
import java.util.stream.Stream;

/**
 * Breaks the class sentence by sentence, in a copy of its source, and sees that the tests of just
 * that sentence fail then. If a break's piece of code is not found any more, the source has
 * changed: tell the break anew in SentencesOfTerms or SentencesOfPromises.
 */
public final class BreaksTest {
    private static final Path SOURCE = Path.of("src/main/java/KingsInches.java");
    private static final Due DUE = new Due();

    /** What came of one break; nothing is wrong with it if told is empty. */
    private record Outcome(String of, String told) {
    }

    public static void main(String[] args) throws IOException {
        String source = Files.readString(SOURCE);
        List<Sentence> all = Sentences.all();
        Compiled asItIs = Compiled.of("KingsInches", source);
        for (int place = 0; place < all.size(); place++) {
            DUE.holds(name(all.get(place)) + " has a break", !all.get(place).breaks.isEmpty());
            DUE.holds(name(all.get(place)) + " holds as the class is", !fails(asItIs, place));
        }
        List<Outcome> outcomes = IntStream.range(0, all.size()).parallel().boxed()
            .flatMap(place -> outcomes(source, all.get(place), place)).toList();
        outcomes.forEach(o -> DUE.holds(o.of() + o.told(), o.told().isEmpty()));
        DUE.end();
    }

    private static String name(Sentence sentence) {
        return sentence.where + ": \"" + sentence.words + "\"";
    }

    private static Stream<Outcome> outcomes(String source, Sentence sentence, int place) {
        List<Outcome> all = new ArrayList<>();
        for (Sentence.Break b : sentence.breaks) {
            all.add(new Outcome(name(sentence) + ", " + b, told(source, b, place)));
        }
        return all.stream();
    }

    private static String told(String source, Sentence.Break b, int place) {
        try {
            Compiled broken = Compiled.of("KingsInches", broken(source, b));
            return fails(broken, place) ? "" : ": its tests do not fail";
        } catch (IllegalStateException e) {
            return ": " + e.getMessage();
        }
    }

    /** Whether a test of the sentence meets a wrong answer, or the class throws. */
    private static boolean fails(Compiled compiled, int place) {
        try {
            compiled.loadClass("Sentences").getMethod("test", int.class).invoke(null, place);
            return false;
        } catch (InvocationTargetException e) {
            return true;
        } catch (ReflectiveOperationException e) {
            throw new IllegalStateException(e);
        }
    }

    private static String broken(String source, Sentence.Break b) {
        int from = 0;
        int to = source.length();
        if (!b.method().isEmpty()) {
            from = onlyOne(source, " " + b.method()).start();
            int end = source.indexOf("\n\n", from);
            to = end < 0 ? to : end;
        }
        String before = source.substring(0, from);
        String within = source.substring(from, to);
        Matcher code = onlyOne(within, b.code());
        return before + within.substring(0, code.start()) + b.instead() + within.substring(code.end())
                + source.substring(to);
    }

    /** Where the code stands; white space may differ. */
    private static Matcher onlyOne(String text, String code) {
        String[] words = code.trim().split("\\s+");
        StringBuilder pattern = new StringBuilder();
        for (String word : words) {
            pattern.append(pattern.length() == 0 ? "" : "\\s+").append(Pattern.quote(word));
        }
        Matcher found = Pattern.compile(pattern.toString()).matcher(text);
        if (!found.find()) {
            throw new IllegalStateException("the source has no " + code);
        }
        int start = found.start();
        if (found.find()) {
            throw new IllegalStateException("the source has more than one " + code);
        }
        found.find(start);
        return found;
    }
}
