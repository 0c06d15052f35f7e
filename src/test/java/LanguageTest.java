import java.io.IOException;
import java.nio.charset.StandardCharsets;
import java.nio.file.Files;
import java.nio.file.Path;
import java.util.List;
import java.util.Map;
import java.util.TreeMap;
import java.util.regex.Matcher;
import java.util.regex.Pattern;

/** What of ../shared/LANGUAGE.md can be seen in the source's letters. Runs in the project's folder, as .ci/run does. */
public final class LanguageTest {
    private static final Path SOURCE = Path.of("src/main/java/TastelessCook.java");
    private static final String[] NEVER = {
        "throw", "throws", "try", "catch", "finally", "synchronized", "assert", "protected", "package", "native",
        "volatile", "transient", "var", "yield", "System\\.(?!arraycopy\\()\\w+", "Random", "Thread", "Object",
        "\\w+Exact", "equals", "hashCode", "toString", "NaN"};
    /** Rule 4: every library call that the class may use by a library class's name. */
    private static final String LIBRARY =
        "Math\\.(max|min|abs)|Integer\\.bitCount|System\\.arraycopy|Arrays\\.fill";

    /** Rule 11. */
    private static final int MOST_LINES = 60;
    private static final int MOST_DEPTH = 8;
    private static final Pattern HEAD =
        Pattern.compile("( {4}| {8})(?! |if|for|while|switch|\\})[^=/*(]*\\b(\\w+)\\([^;]*\\) \\{");

    private static String withoutComments(String source) {
        return source.replaceAll("(?s)/\\*.*?\\*/", "").replaceAll("//[^\n]*", "");
    }

    private static void words(String code) {
        for (String word : NEVER) {
            Check.holds("no " + word, !Pattern.compile("\\b" + word + "\\b").matcher(code).find());
        }
        Check.holds("no lambda, no method reference", !code.contains("->") && !code.contains("::"));
        Matcher imports = Pattern.compile("import ([^;]+);").matcher(code);
        while (imports.find()) {
            Check.holds("import " + imports.group(1), imports.group(1).equals("java.util.Arrays"));
        }
        Matcher calls = Pattern.compile("\\b(Math|Integer|Long|System|Arrays|String|Character)\\.\\w+").matcher(code);
        while (calls.find()) {
            Check.holds("call of " + calls.group(), calls.group().matches(LIBRARY));
        }
    }

    private static void signs(String source) {
        boolean plain = true;
        for (char sign : source.toCharArray()) {
            plain &= sign == '\n' || sign >= ' ' && sign <= '~';
        }
        Check.holds("plain signs alone", plain);
    }

    /** Objects are made where a field or a constructor begins, so that no call makes any. */
    private static void objectsOnlyAtFirst(String code) {
        for (String line : code.split("\n")) {
            if (line.contains("new ")) {
                Check.holds("made once: " + line.trim(), line.contains(" final ") || line.contains("[i] = new")
                    || line.contains("[b] = new"));
            }
        }
    }

    /** The bodies of all methods by their names; by the way that the source is set in: a method ends as far in as its head. */
    private static Map<String, String> bodies(List<String> lines) {
        Map<String, String> bodies = new TreeMap<>();
        for (int i = 0; i < lines.size(); i++) {
            Matcher matcher = HEAD.matcher(lines.get(i));
            if (matcher.matches()) {
                int end = lines.subList(i, lines.size()).indexOf(matcher.group(1) + "}");
                Check.holds("short: " + lines.get(i).trim(), end >= 0 && end <= MOST_LINES);
                Check.holds("few parameters: " + lines.get(i).trim(), lines.get(i).split(",").length <= 7);
                String body = String.join("\n", lines.subList(i + 1, i + Math.max(1, end)));
                bodies.merge(matcher.group(2), body, (one, other) -> one + "\n" + other);
            }
        }
        Check.holds("methods were found", bodies.size() > 26);
        return bodies;
    }

    /** How many calls stand open at once below this one, the library's included; two methods of one name count as one. */
    private static int depth(Map<String, String> bodies, String name, int open) {
        if (open > MOST_DEPTH) {
            return open;
        }
        int deepest = open;
        Matcher calls = Pattern.compile("\\b(\\w+)\\(").matcher(bodies.getOrDefault(name, ""));
        while (calls.find()) {
            deepest = Math.max(deepest, depth(bodies, calls.group(1), open + 1));
        }
        return deepest;
    }

    /** Recursion would go beyond every depth, so there is none. */
    private static void fewCallsDeep(Map<String, String> bodies) {
        for (String name : bodies.keySet()) {
            Check.holds("not too deep: " + name, depth(bodies, name, 1) <= MOST_DEPTH);
        }
    }

    public static void main(String[] args) throws IOException {
        String source = Files.readString(SOURCE, StandardCharsets.ISO_8859_1);
        String code = withoutComments(source);
        words(code);
        signs(source);
        objectsOnlyAtFirst(code);
        fewCallsDeep(bodies(code.lines().toList()));
        Check.finish("LanguageTest");
    }
}
