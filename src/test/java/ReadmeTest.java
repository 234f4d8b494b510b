import java.io.IOException;
import java.lang.reflect.InvocationTargetException;
import java.lang.reflect.Method;
import java.lang.reflect.Modifier;
import java.nio.file.Files;
import java.nio.file.Path;
import java.util.ArrayList;
import java.util.List;
import java.util.regex.Matcher;
import java.util.regex.Pattern;
import java.util.stream.Stream;

/**
 * README.md: its calls are compiled and asked, and answer what stands beside them; it shows every
 * call of the face, names every test, and says how to run them.
 */
public final class ReadmeTest {
    private static final Path README = Path.of("README.md"), TESTS = Path.of("src/test/java"), RUN = Path.of(".ci/run");
    private static final Pattern BLOCK = Pattern.compile("```java\\n(.*?)```", Pattern.DOTALL);

    /** A call on a line of its own, and its answer; of a refusal or NONE the name too. */
    private static final Pattern CALL = Pattern.compile("x\\.\\w+\\(.*\\); *(?://(.*))?");
    private static final Pattern ANSWER = Pattern.compile(" (-?\\d+)(?:, (?:LOST and )?([A-Z]+))?(?:$|[:.;] ?.*)");
    private static final Due DUE = new Due();

    public static void main(String[] args) throws IOException {
        String text = Files.readString(README);
        List<String> blocks = new ArrayList<>();
        for (Matcher block = BLOCK.matcher(text); block.find();) {
            blocks.add(block.group(1));
        }
        for (String block : blocks) {
            ask(block);
        }
        showsEveryCall(String.join("", blocks));
        namesEveryTest(text);
        DUE.holds("says how to run the tests", text.contains("```sh\n" + RUN + "\n```") && Files.isExecutable(RUN));
        DUE.end();
    }

    /** Each block stands for itself: a main method that gathers what its calls answer. */
    private static void ask(String block) {
        List<String> calls = new ArrayList<>();
        List<String> answers = new ArrayList<>();
        StringBuilder code = new StringBuilder("public final class Shown {\n")
                .append("public static void ask(java.util.List<Long> got) {\n");
        for (String line : block.split("\n")) {
            Matcher call = CALL.matcher(line);
            if (call.matches()) {
                calls.add(line);
                answers.add(call.group(1) == null ? "" : call.group(1));
                code.append("got.add((long) ").append(line, 0, line.lastIndexOf(");") + 1).append(");\n");
            } else {
                code.append(line).append('\n');
            }
        }
        List<Long> got = answersOf(code.append("}\n}\n").toString());
        DUE.due("calls of a block that were asked", calls.size(), got.size());
        for (int i = 0; i < calls.size(); i++) {
            compare(calls.get(i), answers.get(i), got.get(i));
        }
    }

    private static List<Long> answersOf(String code) {
        List<Long> got = new ArrayList<>();
        try {
            Compiled.of("Shown", code).loadClass("Shown").getMethod("ask", List.class).invoke(null, got);
        } catch (InvocationTargetException e) {
            throw new IllegalStateException("README.md shows code that throws", e.getCause());
        } catch (ReflectiveOperationException e) {
            throw new IllegalStateException(e);
        }
        return got;
    }

    private static void compare(String call, String told, long got) {
        Matcher answer = ANSWER.matcher(told);
        boolean tells = answer.matches();
        DUE.holds(call + " tells its answer", tells);
        if (!tells) {
            return;
        }
        DUE.due(call, Long.parseLong(answer.group(1)), got);
        if (answer.group(2) != null) {
            long named = constant(answer.group(2)) + (told.contains("LOST and ") ? KingsInches.LOST : 0);
            DUE.due(call + ", by its name", named, got);
        }
    }

    private static long constant(String name) {
        try {
            return KingsInches.class.getField(name).getLong(null);
        } catch (ReflectiveOperationException e) {
            throw new IllegalStateException("README.md names " + name, e);
        }
    }

    private static void showsEveryCall(String code) {
        for (Method m : KingsInches.class.getDeclaredMethods()) {
            if (Modifier.isPublic(m.getModifiers())) {
                DUE.holds("shows " + m.getName(), code.contains("x." + m.getName() + "("));
            }
        }
    }

    private static void namesEveryTest(String text) throws IOException {
        try (Stream<Path> files = Files.list(TESTS)) {
            for (Path file : files.toList()) {
                String name = file.getFileName().toString().replace(".java", "");
                DUE.holds("names " + name, text.contains("`" + name + "`"));
            }
        }
        for (Matcher name = Pattern.compile("`(\\w+Test)`").matcher(text); name.find();) {
            DUE.holds(name.group(1) + " is there", Files.exists(TESTS.resolve(name.group(1) + ".java")));
        }
    }
}
