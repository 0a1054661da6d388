import java.lang.reflect.Constructor;
import java.lang.reflect.Field;
import java.lang.reflect.Method;
import java.lang.reflect.Modifier;
import java.nio.file.Files;
import java.nio.file.Path;
import java.util.ArrayList;
import java.util.List;
import java.util.Map;
import java.util.Set;
import java.util.TreeMap;
import java.util.TreeSet;
import java.util.regex.Matcher;
import java.util.regex.Pattern;

/** The face of the document, and those rules of the language that a program can look at. */
final class FaceTest {
    private static final Check CHECK = new Check();
    private static final String FACE = "corner(long,long)int at(int,int)long side(int,int,int)int "
            + "sure()int cross(int,int,int,int)int nearest(long,long)int draw()int add(int)int "
            + "close(int,int)int where()int told(int,int)int give(int,int)int drop(int)int "
            + "split(int,int,int,int)int join(int,int)int move(int,int,int)int border(int,int)int "
            + "neighbour(int,int)int locate(int,long,long)int edge()int walk(int,int,int,int)int "
            + "hull(int)int hullAt(int)int twice(int)long compare(int,int)int quota(int,int)int "
            + "undo()int count(int)int digest()long";
    private static final String CONSTANTS = "NONE=-1 UNKNOWN=-101 OUTSIDE=-102 STATE=-103 FULL=-104 "
            + "FEW=-201 TWICE=-202 CROSSED=-203 OVER=-204 APART=-205";

    public static void main(String[] args) throws Exception {
        methods();
        constants();
        classesInside();
        source();
        names();
        lengthsAndDepths();
        CHECK.finish();
    }

    private static String signature(Method method) {
        StringBuilder text = new StringBuilder(method.getName()).append('(');
        for (Class<?> type : method.getParameterTypes()) {
            text.append(text.charAt(text.length() - 1) == '(' ? "" : ",").append(type.getName());
        }
        return text.append(')').append(method.getReturnType().getName()).toString();
    }

    private static void methods() {
        Set<String> seen = new TreeSet<>();
        Set<String> names = new TreeSet<>();
        for (Method method : ParcelMap.class.getDeclaredMethods()) {
            if (!Modifier.isPrivate(method.getModifiers())) {
                CHECK.holds(method + " is public and of the object", Modifier.isPublic(method.getModifiers())
                        && !Modifier.isStatic(method.getModifiers()));
                seen.add(signature(method));
                names.add(method.getName());
            }
        }
        CHECK.holds("the methods are those of the document", seen.equals(Set.of(FACE.split(" "))));
        for (Class<?> type : allClasses()) {
            for (Method method : type.getDeclaredMethods()) {
                CHECK.holds(method + " bears no public name",
                        Modifier.isPublic(method.getModifiers()) || !names.contains(method.getName()));
                CHECK.holds(method + " has at most seven parameters", method.getParameterCount() <= 7);
            }
        }
        Constructor<?>[] made = ParcelMap.class.getDeclaredConstructors();
        CHECK.due("constructors", made.length, 1);
        CHECK.holds("the constructor is public", Modifier.isPublic(made[0].getModifiers()));
        CHECK.due("its parameters", made[0].getParameterCount(), 0);
        CHECK.holds("the class is public and final", Modifier.isFinal(ParcelMap.class.getModifiers())
                && Modifier.isPublic(ParcelMap.class.getModifiers()));
    }

    private static void constants() throws Exception {
        Set<String> seen = new TreeSet<>();
        for (Field field : ParcelMap.class.getDeclaredFields()) {
            if (!Modifier.isPrivate(field.getModifiers())) {
                CHECK.holds(field + " is public", Modifier.isPublic(field.getModifiers()));
                seen.add(field.getName() + "=" + field.getInt(null));
            }
        }
        CHECK.holds("the constants are those of the document", seen.equals(Set.of(CONSTANTS.split(" "))));
    }

    private static Class<?>[] allClasses() {
        Class<?>[] inside = ParcelMap.class.getDeclaredClasses();
        Class<?>[] all = java.util.Arrays.copyOf(inside, inside.length + 1);
        all[inside.length] = ParcelMap.class;
        return all;
    }

    private static void classesInside() {
        CHECK.holds("at most twelve classes", allClasses().length <= 12);
        for (Class<?> type : allClasses()) {
            int fields = 0;
            for (Field field : type.getDeclaredFields()) {
                boolean fixed = Modifier.isStatic(field.getModifiers());
                CHECK.holds(field + " is no static state", !fixed || Modifier.isFinal(field.getModifiers())
                        && (field.getType() == int.class || field.getType() == long.class));
                fields += fixed ? 0 : 1;
            }
            CHECK.holds(type + " has at most twenty fields", fields <= 20);
            CHECK.holds(type + " is static", type == ParcelMap.class || Modifier.isStatic(type.getModifiers()));
        }
    }

    private static String code() throws Exception {
        String text = Files.readString(Path.of("src/main/java/ParcelMap.java"));
        return text.replaceAll("(?s)/\\*.*?\\*/", "").replaceAll("//[^\n]*", "");
    }

    private static void source() throws Exception {
        String code = code();
        for (String word : new String[] {"throw", "try", "catch", "synchronized", "assert", "import",
            "Double", "strictfp", "->", "::", "Exact", "equals", "hashCode", "toString", "%"}) {
            CHECK.holds("the source has no " + word, !code.contains(word));
        }
        // Nothing is made but in constructors: a run of calls takes no room of its own.
        String end = "";
        for (String line : code.split("\n")) {
            if (line.matches(" *(public )?[A-Z][A-Za-z]*\\(.*\\) \\{")) {
                end = line.substring(0, line.length() - line.stripLeading().length()) + "}";
            } else if (line.equals(end)) {
                end = "";
            }
            CHECK.holds("made in a constructor: " + line, !end.isEmpty() || !line.contains("new "));
        }
    }

    /** The library: of all that rule 4 leaves, two functions of Math are all there is. */
    private static void names() throws Exception {
        Set<String> known = new TreeSet<>(Set.of("Math"));
        for (Class<?> type : allClasses()) {
            known.add(type.getSimpleName());
        }
        Matcher name = Pattern.compile("\\b([A-Z][A-Za-z]*[a-z][A-Za-z]*)\\b").matcher(code());
        while (name.find()) {
            CHECK.holds("the class " + name.group(1) + " is known", known.contains(name.group(1)));
        }
        Matcher math = Pattern.compile("Math\\.(\\w+)").matcher(code());
        while (math.find()) {
            CHECK.holds("Math." + math.group(1) + " is known", Set.of("max", "min").contains(math.group(1)));
        }
    }

    /** Methods by their names, with their lines; the few that share a name are taken together. */
    private static Map<String, List<String>> bodies() throws Exception {
        Map<String, List<String>> bodies = new TreeMap<>();
        Pattern head = Pattern.compile("( +)(?:public |private |static )*[\\w\\[\\]]+ (\\w+)\\(.*\\) \\{");
        List<String> body = new ArrayList<>();
        String end = "";
        for (String line : code().split("\n")) {
            Matcher match = head.matcher(line);
            if (end.isEmpty() && match.matches()) {
                end = match.group(1) + "}";
                body = bodies.computeIfAbsent(match.group(2), name -> new ArrayList<>());
            } else if (line.equals(end)) {
                end = "";
            } else if (!end.isEmpty()) {
                body.add(line);
            }
        }
        return bodies;
    }

    /** Rules 8 and 11: short methods, no recursion, and no more than eight calls open at once. */
    private static void lengthsAndDepths() throws Exception {
        Map<String, List<String>> bodies = bodies();
        CHECK.holds("all methods are seen", bodies.keySet().containsAll(Set.of("digest", "relation", "cutOne")));
        for (Map.Entry<String, List<String>> method : bodies.entrySet()) {
            CHECK.holds(method.getKey() + " is short", method.getValue().size() <= 60);
            CHECK.holds(method.getKey() + " goes at most eight deep", depth(bodies, method.getKey(), 0) <= 8);
        }
    }

    private static int depth(Map<String, List<String>> bodies, String name, int above) {
        if (above > 20) {
            return above;
        }
        int deepest = 0;
        Matcher call = Pattern.compile("(\\w+)\\(").matcher(String.join("\n", bodies.get(name)));
        while (call.find()) {
            String called = call.group(1);
            if (bodies.containsKey(called)) {
                deepest = Math.max(deepest, depth(bodies, called, above + 1));
            } else if (called.equals("max") || called.equals("min")) {
                deepest = Math.max(deepest, 1);
            }
        }
        return deepest + 1;
    }
}
