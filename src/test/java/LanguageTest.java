import java.io.IOException;
import java.nio.file.Files;
import java.nio.file.Path;
import java.util.regex.Matcher;
import java.util.regex.Pattern;

/** Words that LANGUAGE.md leaves no room for; the argument is the project's folder. */
public final class LanguageTest {
    private static final Check c = new Check("LanguageTest");
    private static final String[] FORBIDDEN = {"throw", "throws", "try", "catch", "finally", "synchronized", "assert",
        "import", "package", "protected", "volatile", "Double", "Float", "Object", "Exception", "hashCode", "toString",
        "Thread", "Random", "System", "NaN", "strictfp", "native", "transient"};

    public static void main(String[] args) throws IOException {
        Path root = Path.of(args.length > 0 ? args[0] : ".");
        String source = Files.readString(root.resolve("src/main/java/HearingRoom.java"));
        String code = source.replaceAll("(?s)/\\*.*?\\*/", "").replaceAll("//[^\n]*", "");
        for (String word : FORBIDDEN) {
            c.due("'" + word + "' stands in the program", count("\\b" + word + "\\b", code), 0);
        }
        c.due("lambdas or method references", count("->|::", code), 0);
        c.due("names ending in Exact", count("\\w+Exact\\b", code), 0);
        c.due("Math's functions but min and max", count("\\bMath\\.(?!min\\b|max\\b)", code), 0);
        c.due("texts", count("\"", code), 0);
        c.due("characters above 255", count("[^\\x00-\\xff]", source), 0);
        c.due("rests of doubles", count("%\\s*\\d+\\.\\d", code), 0);
        dueShortMethods(source);
        c.end();
    }

    private static int count(String pattern, String in) {
        Matcher m = Pattern.compile(pattern).matcher(in);
        int many = 0;
        while (m.find()) many++;
        return many;
    }

    /** A method begins at a line that opens a body at depth one or two and ends where its brace closes. */
    private static void dueShortMethods(String source) {
        String[] lines = source.split("\n");
        for (int i = 0; i < lines.length; i++) {
            if (!lines[i].matches(" {4,8}[^ /*].*\\).* \\{")) continue;
            String close = lines[i].replaceAll("[^ ].*", "") + "}";
            int j = i;
            while (j < lines.length && !lines[j].equals(close)) j++;
            c.due("too long: " + lines[i].trim(), j - i + 1 > 60 ? 1 : 0, 0);
        }
    }
}
