import java.io.IOException;
import java.lang.reflect.Field;
import java.lang.reflect.Method;
import java.lang.reflect.Modifier;
import java.nio.file.Files;
import java.nio.file.Path;
import java.util.ArrayList;
import java.util.Arrays;
import java.util.HashMap;
import java.util.HashSet;
import java.util.List;
import java.util.Map;
import java.util.Set;
import java.util.regex.Matcher;
import java.util.regex.Pattern;

/** What LANGUAGE.md counts: parameters, lines of a method, fields, classes, how deep calls go. */
final class MeasureTest {
    private static final int MOST_PARAMETERS = 7, MOST_LINES = 60, MOST_FIELDS = 20, MOST_CLASSES = 12, DEEPEST = 8;
    private static final Pattern HEAD = Pattern.compile("^( {4}| {8})(?! )[\\w\\[\\] ]*?(\\w+)\\([^;]*\\) \\{$");
    private static final Pattern CALL = Pattern.compile("(\\w+)\\(");
    /** Calls that go round, held low by a depth that they carry: they count as recursion, not as depth. */
    private static final Set<String> ROUND = Set.of("tryYear", "give", "markOf", "sizeOf");

    /** By a method's name: all names that its bodies call. Methods of one name are taken as one, the worse of both. */
    private static final Map<String, Set<String>> CALLED = new HashMap<>();
    private static final Map<String, Integer> DEPTHS = new HashMap<>();

    public static void main(String[] args) throws IOException {
        classes();
        readBodies(Files.readAllLines(Path.of("src/main/java/DreamGraves.java")));
        Dues.holds("bodies of all methods are found", CALLED.keySet().containsAll(namesOfAll()));
        for (String name : CALLED.keySet()) {
            Dues.holds(name + " goes eight deep at most", deep(name, new HashSet<>()) <= DEEPEST);
        }
        Dues.end();
    }

    private static List<Class<?>> all() {
        List<Class<?>> all = new ArrayList<>(Arrays.asList(DreamGraves.class.getDeclaredClasses()));
        all.add(DreamGraves.class);
        return all;
    }

    private static Set<String> namesOfAll() {
        Set<String> names = new HashSet<>();
        for (Class<?> c : all()) {
            for (Method m : c.getDeclaredMethods()) {
                names.add(m.getName());
            }
        }
        return names;
    }

    private static void classes() {
        Dues.holds("classes are few", all().size() <= MOST_CLASSES);
        for (Class<?> c : all()) {
            int fields = 0;
            for (Field f : c.getDeclaredFields()) {
                boolean isStatic = Modifier.isStatic(f.getModifiers());
                fields += isStatic ? 0 : 1;
                Dues.holds(f + " is final, if it is static", !isStatic || Modifier.isFinal(f.getModifiers()));
            }
            Dues.holds(c + " has few fields", fields <= MOST_FIELDS);
            for (Method m : c.getDeclaredMethods()) {
                Dues.holds(m + " has few parameters", m.getParameterCount() <= MOST_PARAMETERS);
            }
        }
    }

    /** A body ends at the brace that stands as far in as its head. */
    private static void readBodies(List<String> lines) {
        for (int i = 0; i < lines.size(); i++) {
            Matcher head = HEAD.matcher(lines.get(i));
            if (head.matches()) {
                int end = lines.subList(i, lines.size()).indexOf(head.group(1) + "}") + i;
                Dues.holds(head.group(2) + " ends", end > i);
                Dues.holds(head.group(2) + " is short", end - i + 1 <= MOST_LINES);
                noteCalls(head.group(2), lines.subList(i + 1, Math.max(end, i + 1)));
            }
        }
    }

    private static void noteCalls(String name, List<String> body) {
        Set<String> called = CALLED.computeIfAbsent(name, key -> new HashSet<>());
        for (String line : body) {
            Matcher call = CALL.matcher(line);
            while (call.find()) {
                called.add(call.group(1));
            }
        }
    }

    private static int deep(String name, Set<String> open) {
        Dues.holds(name + " goes round only with a depth", !open.contains(name));
        if (open.contains(name) || !CALLED.containsKey(name)) {
            return 0;
        }
        if (!DEPTHS.containsKey(name)) {
            open.add(name);
            int deepest = 0;
            for (String called : CALLED.get(name)) {
                boolean isRound = ROUND.contains(name) && ROUND.contains(called);
                deepest = Math.max(deepest, isRound ? 0 : deep(called, open));
            }
            open.remove(name);
            DEPTHS.put(name, deepest + 1);
        }
        return DEPTHS.get(name);
    }

    private MeasureTest() {
    }
}
