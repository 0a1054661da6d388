import java.lang.reflect.Field;
import java.lang.reflect.Method;
import java.lang.reflect.Modifier;
import java.nio.file.Files;
import java.nio.file.Path;
import java.util.ArrayList;
import java.util.List;
import java.util.regex.Matcher;
import java.util.regex.Pattern;

/** README.md: its example stands below word for word, and answers what is told beside each call. */
final class ReadmeTest {
    private static final Check CHECK = new Check();

    public static void main(String[] args) throws Exception {
        String readme = Files.readString(Path.of("README.md"));
        sameWords(readme);
        answers(readme);
        names(readme);
        CHECK.finish();
    }

    private static long[] example() {
        // begins
        ParcelMap map = new ParcelMap();
        long zero = Double.doubleToRawLongBits(0.0);
        long one = Double.doubleToRawLongBits(1.0);
        long three = Double.doubleToRawLongBits(3.0);
        long four = Double.doubleToRawLongBits(4.0);

        // Corners go in by the bits of their numbers, and are called by their own number from then on.
        int a = map.corner(zero, zero);           // 0
        int b = map.corner(four, zero);           // 1
        int c = map.corner(four, three);          // 2
        int d = map.corner(zero, three);          // 3

        // A ring is drawn corner by corner, either way round, and closed into a parcel.
        map.draw();
        map.add(a);
        map.add(d);
        map.add(c);
        map.add(b);
        int field = map.close(0, 7);              // 0: layer 0, owner 7
        long twice = map.twice(field);            // 24: twice the area, rounded down
        int second = map.told(field, 4);          // 1: corner 1 of the parcel is b, it turns left

        // Cut from its corner 0 to its corner 2; the part between them is new, and of owner 8.
        int part = map.split(field, 0, 2, 8);     // 1
        int border = map.border(field, part);     // 1: one edge of each, along the cut
        int found = map.locate(0, three, one);    // 1: the point (3, 1) is in the new one
        int edge = map.edge();                    // -1: NONE, it is on no edge of that
        int more = map.quota(field, 5);           // 3: of two like halves the lesser number
        int less = map.quota(part, 5);            // 2

        // The parcel that went is back again after an undo, of which there is one step.
        int whole = map.join(field, part);        // 4: so many corners has what they are together
        int undone = map.undo();                  // 1
        int again = map.undo();                   // -103: STATE, there is nothing to undo

        // What cannot be is refused, and changes nothing but what where() tells.
        map.draw();
        map.add(a);
        map.add(b);
        map.add(d);
        int over = map.close(0, 9);               // -204: OVER
        int least = map.where();                  // 0: the least parcel that it would lie over
        int apart = map.close(1, 9);              // 2: on layer 1 there is room
        // ends
        return new long[] {a, b, c, d, field, twice, second, part, border, found, edge, more, less,
            whole, undone, again, over, least, apart};
    }

    /** The lines between one that is 'first' and the next one that is 'last', without their margins. */
    private static List<String> between(String text, String first, String last) {
        List<String> lines = new ArrayList<>();
        boolean inside = false;
        for (String line : text.split("\n")) {
            if (inside && line.strip().equals(last)) {
                return lines;
            }
            if (inside) {
                lines.add(line.strip());
            }
            inside = inside || line.strip().equals(first);
        }
        return new ArrayList<>();
    }

    private static List<String> told(String readme) {
        return between(readme, "```java", "```");
    }

    private static void sameWords(String readme) throws Exception {
        String source = Files.readString(Path.of("src/test/java/ReadmeTest.java"));
        List<String> here = between(source, "// begins", "// ends");
        CHECK.holds("there is an example", told(readme).size() > 30);
        CHECK.holds("the example of README.md is the one that is run here", here.equals(told(readme)));
    }

    private static void answers(String readme) {
        Pattern beside = Pattern.compile("\\w+ (\\w+) = map\\..*; +// (-?\\d+)\\b.*");
        long[] got = example();
        int seen = 0;
        for (String line : told(readme)) {
            Matcher match = beside.matcher(line);
            if (match.matches() && seen < got.length) {
                CHECK.due(match.group(1) + " of the example", got[seen], Long.parseLong(match.group(2)));
                seen++;
            }
        }
        CHECK.due("answers of the example", seen, got.length);
    }

    private static void names(String readme) {
        for (Method method : ParcelMap.class.getDeclaredMethods()) {
            if (Modifier.isPublic(method.getModifiers())) {
                CHECK.holds("README.md names " + method.getName(), readme.contains("`" + method.getName() + "`"));
            }
        }
        for (Field field : ParcelMap.class.getDeclaredFields()) {
            if (Modifier.isPublic(field.getModifiers())) {
                CHECK.holds("README.md names " + field.getName(), readme.contains("`" + field.getName() + "`"));
            }
        }
        CHECK.holds("README.md tells how to run the tests", readme.contains(".ci/run"));
        for (String test : tests()) {
            CHECK.holds("README.md names " + test, readme.contains("`" + test + "`"));
        }
    }

    private static List<String> tests() {
        List<String> names = new ArrayList<>();
        String[] files = Path.of("src/test/java").toFile().list();
        for (String file : files == null ? new String[0] : files) {
            if (file.endsWith("Test.java")) {
                names.add(file.substring(0, file.length() - ".java".length()));
            }
        }
        CHECK.holds("there are tests", !names.isEmpty());
        return names;
    }
}
