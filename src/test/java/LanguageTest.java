import java.io.IOException;
import java.lang.reflect.Constructor;
import java.lang.reflect.Executable;
import java.lang.reflect.Field;
import java.lang.reflect.Method;
import java.lang.reflect.Modifier;
import java.nio.file.Files;
import java.nio.file.Path;
import java.util.Arrays;
import java.util.Map;
import java.util.Set;
import java.util.TreeSet;
import java.util.regex.Matcher;
import java.util.regex.Pattern;

/** The document's face, and those rules of LANGUAGE.md that can be seen from outside. */
public final class LanguageTest {
    private static final Path SOURCE = Path.of("src/main/java/KingsInches.java");
    private static final Path DOCUMENT = Path.of("../shared/DOC.md");
    private static final String[] FACE = {
        "int men 3", "int set 3", "int way 2", "int say 1", "int wipe 0", "int fault 1", "int take 1",
        "int line 1", "int hump 3", "long upper 5", "int misfit 4", "int fit 3", "int span 4", "int found 3",
        "long written 4", "long back 6", "long pile 2", "long grown 3", "long right 3", "long mix 6",
        "long fall 7", "long alone 8", "long mean 2", "int mode 1", "long about 4", "long beside 4",
        "int shorter 4", "int make 5", "int off 7", "int best 6", "int image 1", "int restore 1", "int told 1"};
    private static final Map<String, Long> CONSTANTS = Map.of("UNKNOWN", -1L, "OUTSIDE", -2L, "STATE", -3L,
            "FULL", -4L, "NO", -5L, "NONE", -6L, "LOST", -1000000000000000000L);
    private static final String[] NEVER = {"throw", "throws", "try", "catch", "finally", "synchronized",
        "assert", "protected", "package", "volatile", "native", "Object", "Random", "Thread"};
    private static final Set<String> IMPORTS = Set.of("java.util.Arrays", "java.util.ArrayList", "java.util.List",
            "java.util.Iterator");
    private static final Set<String> LIBRARY = Set.of("Arrays.fill", "Arrays.copyOf", "Arrays.copyOfRange",
            "System.arraycopy");

    private static final Due DUE = new Due();

    public static void main(String[] args) throws IOException {
        face();
        classesInside();
        source(Files.readString(SOURCE));
        asTheDocumentHasIt(Files.readString(SOURCE), Files.readString(DOCUMENT));
        headings(Files.readString(SOURCE), Files.readString(DOCUMENT));
        DUE.end();
    }

    /** Every line of the document's face, with the names of the parameters that stand there, and no other. */
    private static void asTheDocumentHasIt(String text, String document) {
        Set<String> due = publicLines(document.replaceAll("\\);", ") {"));
        DUE.due("lines of the document's face", FACE.length + 3, due.size());
        for (String line : due) {
            DUE.holds("the face has: " + line, publicLines(text).contains(line));
        }
        DUE.due("lines of the face", due.size(), publicLines(text).size());
    }

    private static Set<String> publicLines(String text) {
        Set<String> lines = new TreeSet<>();
        Matcher line = Pattern.compile("(?m)^    public .*$").matcher(text);
        while (line.find()) {
            lines.add(line.group());
        }
        return lines;
    }

    /** "Ahead of the calls .. the interface says: ---- 1 books, texts." */
    private static void headings(String text, String document) {
        Matcher said = Pattern.compile("Ahead of the calls (.*) the interface says: (.*)\\.").matcher(document);
        int parts = 0;
        while (said.find()) {
            parts++;
            int from = Math.max(0, text.indexOf("    // " + said.group(2) + "\n"));
            DUE.holds("the source says " + said.group(2), from > 0);
            int to = text.indexOf("    // ----", from + 1);
            for (String call : said.group(1).split(", ")) {
                Matcher at = Pattern.compile("public \\w+ " + call.replace("`", "") + "\\(").matcher(text);
                DUE.holds(call + " stands behind " + said.group(2), at.find(from) && at.start() < to);
            }
        }
        DUE.due("parts of the face", 5, parts);
    }

    private static void face() {
        Class<?> c = KingsInches.class;
        DUE.holds("public and final", Modifier.isPublic(c.getModifiers()) && Modifier.isFinal(c.getModifiers()));
        Set<String> seen = new TreeSet<>();
        Set<String> shut = new TreeSet<>();
        for (Method m : c.getDeclaredMethods()) {
            if (m.isSynthetic()) {
                continue;
            }
            if (Modifier.isPrivate(m.getModifiers())) {
                shut.add(m.getName());
                continue;
            }
            DUE.holds(m + " is public, not static", m.getModifiers() == Modifier.PUBLIC);
            for (Class<?> p : m.getParameterTypes()) {
                DUE.holds(m + " takes ints", p == int.class);
            }
            seen.add(m.getReturnType() + " " + m.getName() + " " + m.getParameterCount());
        }
        DUE.holds("the document's methods and no other: " + seen, seen.equals(new TreeSet<>(Arrays.asList(FACE))));
        for (String method : FACE) {
            DUE.holds("no private method is named as in " + method, !shut.contains(method.split(" ")[1]));
        }
        Constructor<?>[] made = c.getDeclaredConstructors();
        DUE.holds("one constructor", made.length == 1 && made[0].getParameterCount() == 0
                && Modifier.isPublic(made[0].getModifiers()));
        constants();
    }

    /** Their values are read from the class itself: a test's own code has them as they were when it was compiled. */
    static void constants() {
        Set<String> open = new TreeSet<>();
        for (Field f : KingsInches.class.getDeclaredFields()) {
            int how = f.getModifiers();
            DUE.holds(f + " is final, if static", !Modifier.isStatic(how) || Modifier.isFinal(how));
            if (!Modifier.isPrivate(how) && !f.isSynthetic()) {
                open.add(f.getName());
                DUE.holds(f + " is a constant", how == (Modifier.PUBLIC | Modifier.STATIC | Modifier.FINAL));
                DUE.holds(f + " has its type", f.getType() == (f.getName().equals("LOST") ? long.class : int.class));
                DUE.due(f.getName(), CONSTANTS.getOrDefault(f.getName(), 0L), valueOf(f));
            }
        }
        DUE.holds("the document's constants and no other: " + open, open.equals(new TreeSet<>(CONSTANTS.keySet())));
    }

    private static long valueOf(Field f) {
        try {
            return f.getLong(null);
        } catch (IllegalAccessException e) {
            throw new IllegalStateException(e);
        }
    }

    private static void classesInside() {
        Class<?>[] inside = KingsInches.class.getDeclaredClasses();
        DUE.holds("at most twelve classes", inside.length <= 11);
        few(KingsInches.class);
        for (Class<?> c : inside) {
            DUE.holds(c + " is static, private or package-visible", Modifier.isStatic(c.getModifiers())
                    && !Modifier.isPublic(c.getModifiers()) && !Modifier.isProtected(c.getModifiers()));
            few(c);
        }
    }

    /** At most seven parameters (but for alone, whose eight are the document's), twenty fields. */
    private static void few(Class<?> c) {
        for (Executable e : c.getDeclaredMethods()) {
            DUE.holds(e + " takes seven at most", e.getParameterCount() <= 7 || e.getName().equals("alone"));
        }
        for (Executable e : c.getDeclaredConstructors()) {
            DUE.holds(e + " takes seven at most", e.getParameterCount() <= 7);
        }
        int fields = 0;
        for (Field f : c.getDeclaredFields()) {
            fields += Modifier.isStatic(f.getModifiers()) ? 0 : 1;
            DUE.holds(f + " is final, if static",
                    !Modifier.isStatic(f.getModifiers()) || Modifier.isFinal(f.getModifiers()));
        }
        DUE.holds(c + " has twenty fields at most", fields <= 20);
    }

    private static void source(String text) {
        String code = Pattern.compile("/\\*.*?\\*/|//[^\\n]*", Pattern.DOTALL).matcher(text).replaceAll("");
        for (String word : NEVER) {
            DUE.holds("no " + word, !Pattern.compile("\\b" + word + "\\b").matcher(code).find());
        }
        DUE.holds("no lambda, no method reference", !code.contains("->") && !code.contains("::"));
        DUE.holds("no static block", !Pattern.compile("\\bstatic\\s*\\{").matcher(code).find());
        DUE.holds("nothing whose name ends in Exact", !Pattern.compile("Exact\\s*\\(").matcher(code).find());
        Matcher imports = Pattern.compile("import ([^;]*);").matcher(code);
        while (imports.find()) {
            DUE.holds("import " + imports.group(1), IMPORTS.contains(imports.group(1)));
        }
        Matcher calls = Pattern.compile("\\b(Arrays|System)\\.(\\w+)").matcher(code);
        while (calls.find()) {
            DUE.holds("library: " + calls.group(), LIBRARY.contains(calls.group()));
        }
        for (int i = 0; i < text.length(); i++) {
            if (text.charAt(i) > 126) {
                DUE.holds("signs of the source are plain", false);
            }
        }
    }
}
