import java.io.IOException;
import java.nio.file.Files;
import java.nio.file.Path;
import java.util.List;
import java.util.Set;
import java.util.TreeSet;
import java.util.regex.Matcher;
import java.util.regex.Pattern;

/** README.md's example does what it says, and is the one that is played here; the argument is the project's folder. */
public final class ReadmeTest {
    private static final Check c = new Check("ReadmeTest");

    public static void main(String[] args) throws IOException {
        Path root = Path.of(args.length > 0 ? args[0] : ".");
        playExample();
        dueSameLines(Files.readAllLines(root.resolve("README.md")),
            Files.readAllLines(root.resolve("src/test/java/ReadmeTest.java")));
        dueNames(Files.readString(root.resolve("README.md")), root);
        c.end();
    }

    private static void playExample() {
        HearingRoom room = new HearingRoom();
        int phone = room.device(0, 0, 0);             // a PHONE
        room.plug(phone, true);
        room.row(phone, 24);                          // 24 offsets of 0.0
        c.dueNumber("an offset before", room.offset(phone, 5), 0.0);
        room.calibrate(phone, 5, 7, 2);               // that of tone 5 is 3.5
        c.dueNumber("an offset behind", room.offset(phone, 5), 3.5);
        int listener = room.listener(1);              // by LIMENS
        room.limen(listener, 0, 5, 35);               // right ear, tone 5
        int test = room.test(phone, listener, 0, 5);
        c.due("TURNS that a rule has", room.rule(test, 4, 6), 6);
        room.rule(test, 4, 8);                        // 8 TURNS instead of 6
        c.due("status() of the rule", room.status(), 0);
        room.run(test, 200);
        c.due("by what it ended", room.told(test, 3), 1);
        c.due("turns", room.told(test, 2), 8);
        int threshold = room.threshold(test);         // or HearingRoom.NOTHING
        c.due("the threshold", threshold, 35);
        int chart = room.chart();
        room.enter(chart, test);
        double value = Double.longBitsToDouble(room.at(chart, 0, 0, 5));
        c.due("the value", (long) value, 35);
        int masked = room.test(phone, listener, 0, 5);
        int plateau = room.plateau(masked, 20, 10, 10, 3, 5);
        c.due("the plateau", plateau, 35);
        int staircases = room.plateauOf(2);
        c.due("its staircases", staircases, 3);
    }

    private static void dueSameLines(List<String> readme, List<String> played) {
        int from = readme.indexOf("```java") + 1;
        int next = 0;
        int lines = 0;
        for (int i = from; from > 0 && i < readme.size() && !readme.get(i).equals("```"); i++) {
            int found = next;
            while (found < played.size() && !played.get(found).trim().equals(readme.get(i))) found++;
            c.due("played: " + readme.get(i), found < played.size() ? 1 : 0, 1);
            if (found < played.size()) next = found + 1;
            lines++;
        }
        c.due("lines of the example", lines, 17);
    }

    /** Every test of the project is told of, and no other. */
    private static void dueNames(String readme, Path root) throws IOException {
        Set<String> told = new TreeSet<>();
        Matcher m = Pattern.compile("`(\\w+Test)`").matcher(readme);
        while (m.find()) told.add(m.group(1));
        try (var files = Files.list(root.resolve("src/test/java"))) {
            for (Path file : files.toList()) {
                String name = file.getFileName().toString().replace(".java", "");
                if (name.endsWith("Test")) c.due(name + " stands in README.md", told.remove(name) ? 1 : 0, 1);
            }
        }
        c.due("tests that README.md names and that are not there: " + told, told.size(), 0);
    }
}
