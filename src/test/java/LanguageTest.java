import java.io.IOException;
import java.nio.file.Files;
import java.nio.file.Path;
import java.util.HashMap;
import java.util.HashSet;
import java.util.Map;
import java.util.Set;
import java.util.TreeMap;
import java.util.TreeSet;
import java.util.regex.Matcher;
import java.util.regex.Pattern;

/** What LANGUAGE.md leaves no room for, as far as the program's text tells it; the argument is the project's folder. */
public final class LanguageTest {
    private static final Check c = new Check("LanguageTest");
    private static final String[] FORBIDDEN = {"throw", "throws", "try", "catch", "finally", "synchronized", "assert",
        "import", "package", "protected", "volatile", "Double", "Float", "Object", "Exception", "hashCode", "toString",
        "Thread", "Random", "System", "NaN", "strictfp", "native", "transient", "instanceof", "equals"};
    /** The line that opens a method or a constructor, of the class itself or of one inside it. */
    private static final Pattern METHOD = Pattern.compile("( {4}| {8})(?:[\\w\\[\\]]+ )*(\\w+)\\([^)]*\\) \\{");
    /** Where an object may be made: what the document counts, and what is made along with it. */
    private static final Set<String> MAKERS = Set.of("device", "listener", "test", "chart", "Trial");
    /** Above what any method of the program goes, so that a ring of calls is told and not followed for ever. */
    private static final int ENDLESSLY_DEEP = 1000;

    private final Map<String, String> bodies = new TreeMap<>();
    private final Map<String, Integer> lengths = new TreeMap<>();

    public static void main(String[] args) throws IOException {
        Path root = Path.of(args.length > 0 ? args[0] : ".");
        String source = Files.readString(root.resolve("src/main/java/HearingRoom.java"));
        String code = source.replaceAll("(?s)/\\*.*?\\*/", "").replaceAll("//[^\n]*", "");
        dueWords(source, code);
        LanguageTest program = new LanguageTest();
        program.read(code);
        program.dueShortMethods();
        program.dueShallowCalls();
        program.dueFewObjects(code);
        c.end();
    }

    private static void dueWords(String source, String code) {
        for (String word : FORBIDDEN) {
            c.due("'" + word + "' stands in the program", count("\\b" + word + "\\b", code), 0);
        }
        c.due("lambdas or method references", count("->|::", code), 0);
        c.due("names ending in Exact", count("\\w+Exact\\b", code), 0);
        c.due("Math's functions but min and max", count("\\bMath\\.(?!min\\b|max\\b)", code), 0);
        c.due("Long's functions but compare", count("\\bLong\\.(?!compare\\b)", code), 0);
        c.due("texts", count("\"", code), 0);
        c.due("characters above 255", count("[^\\x00-\\xff]", source), 0);
        c.due("rests of doubles", count("%\\s*\\d+\\.\\d", code), 0);
        c.due("arrays of two dimensions", count("\\]\\s*\\[", code), 0);
        c.due("static blocks", count("\\bstatic\\s*\\{", code), 0);
        c.due("loops without a counter", count("\\bwhile\\b|\\bdo\\b|for \\(;;", code), 0);
        c.due("public classes", count("\\bpublic (final )?(class|interface|enum|record)\\b", code), 1);
        c.due("classes inside that are not private, static and final",
            count("\\bclass\\b", code) - count("private static final class", code), 1);
    }

    private static int count(String pattern, String in) {
        Matcher m = Pattern.compile(pattern).matcher(in);
        int many = 0;
        while (m.find()) many++;
        return many;
    }

    /** A method ends where a brace closes as far in as the line that opens it. */
    private void read(String code) {
        String[] lines = code.split("\n");
        for (int i = 0; i < lines.length; i++) {
            Matcher opening = METHOD.matcher(lines[i]);
            if (!opening.matches()) continue;
            String close = opening.group(1) + "}";
            StringBuilder body = new StringBuilder();
            int j = i + 1;
            for (; j < lines.length && !lines[j].equals(close); j++) body.append(lines[j]).append('\n');
            // methods of like names are taken as one, which can only make it deeper and longer
            bodies.merge(opening.group(2), body.toString(), String::concat);
            lengths.merge(opening.group(2), j - i + 1, Math::max);
            i = j;
        }
    }

    private void dueShortMethods() {
        c.due("methods that were read: too few", bodies.size() > 100 ? 1 : 0, 1);
        for (String name : lengths.keySet()) c.due(name + " is too long", lengths.get(name) > 60 ? 1 : 0, 0);
    }

    /** Rules 8 and 11: no recursion, and calls go at most eight deep. */
    private void dueShallowCalls() {
        Map<String, Integer> known = new HashMap<>();
        for (String name : bodies.keySet()) {
            int deep = depth(name, new HashSet<>(), known);
            c.due(name + " goes " + deep + " deep", deep > 8 ? 1 : 0, 0);
        }
        c.due("step goes through others", known.get("step") > 3 ? 1 : 0, 1);
    }

    private int depth(String name, Set<String> open, Map<String, Integer> known) {
        if (known.containsKey(name)) return known.get(name);
        if (!open.add(name)) return ENDLESSLY_DEEP;
        int deepest = 0;
        for (String called : called(name)) deepest = Math.max(deepest, depth(called, open, known));
        open.remove(name);
        known.put(name, deepest + 1);
        return deepest + 1;
    }

    private Set<String> called(String name) {
        Set<String> found = new TreeSet<>();
        Matcher m = Pattern.compile("(?<!\\bMath\\.|\\bLong\\.)\\b(\\w+)\\(").matcher(bodies.get(name));
        while (m.find()) if (bodies.containsKey(m.group(1))) found.add(m.group(1));
        return found;
    }

    /** Rule 12: only what is kept is made, so a plateau or a replay makes nothing. */
    private void dueFewObjects(String code) {
        int made = 0;
        for (String name : bodies.keySet()) {
            int many = count("\\bnew\\b|\\.clone\\(", bodies.get(name));
            if (MAKERS.contains(name)) made += many;
            else c.due(name + " makes objects", many, 0);
        }
        int inFields = count("(?m)^ +private final [\\w\\[\\]]+ \\w+ = new ", code);
        c.due("all that makes objects was looked at", made + inFields, count("\\bnew\\b|\\.clone\\(", code));
    }
}
