import java.io.IOException;
import java.lang.reflect.Constructor;
import java.lang.reflect.Field;
import java.lang.reflect.Method;
import java.lang.reflect.Modifier;
import java.nio.file.Files;
import java.nio.file.Path;
import java.util.ArrayList;
import java.util.Arrays;
import java.util.Collections;
import java.util.List;
import java.util.regex.Pattern;

/** The public face is the document's and no more; words that LANGUAGE.md rules out do not stand in the source. */
final class FaceTest {
    private static final String[] FACE = {
        "int row(int,int,int)", "int set(int,int,int)", "int copy(int,int,int,int,int)", "int drop(int)",
        "int feed(int)", "int yard()", "int fault()", "int undo()", "int years(int)", "int supper(int)",
        "int fever(int)", "int tell(int,int)", "int bury(int,int)", "int sleeper(int,int)", "int memory(int,int)",
        "int grave(int,int)", "int ahead(int)", "int dug(int)", "int firstDug()", "int suppers(int,int,int)",
        "int bound(int)", "int forgets(int,int)", "int most(int,int)", "int pair(int,int)", "int who(int,int,int,int)",
        "int whispered(int,int,int,int)", "int cheese(int)", "long awake(int,int,int)", "int drawn(int,int,int)",
        "int image(int)", "int restore(int)", "int kind(int)", "int as(int,int)", "int ask(int,int)", "int trace(int)",
        "int count(int)", "int status()",
    };
    private static final String[] RULED_OUT = {
        "throw", "throws", "try", "catch", "finally", "synchronized", "assert", "protected", "double", "float",
        "Exact", "Object", "equals", "hashCode", "random", "MAX_VALUE", "MIN_VALUE", "::", "->",
    };

    public static void main(String[] args) throws IOException {
        face();
        hidden();
        names();
        words();
        Dues.end();
    }

    private static String told(Method m) {
        StringBuilder text = new StringBuilder(m.getReturnType().getSimpleName() + " " + m.getName() + "(");
        Class<?>[] types = m.getParameterTypes();
        for (int i = 0; i < types.length; i++) {
            text.append(i == 0 ? "" : ",").append(types[i].getSimpleName());
        }
        return text.append(")").toString();
    }

    private static void face() {
        Dues.holds("public and final", Modifier.isPublic(DreamGraves.class.getModifiers())
            && Modifier.isFinal(DreamGraves.class.getModifiers()));
        List<String> found = new ArrayList<>();
        for (Method m : DreamGraves.class.getDeclaredMethods()) {
            if (!Modifier.isPrivate(m.getModifiers())) {
                found.add(told(m));
                Dues.holds(told(m) + " is public, not static",
                    Modifier.isPublic(m.getModifiers()) && !Modifier.isStatic(m.getModifiers()));
            }
        }
        List<String> due = new ArrayList<>(Arrays.asList(FACE));
        Collections.sort(found);
        Collections.sort(due);
        Dues.holds("methods " + found, found.equals(due));
        Constructor<?>[] made = DreamGraves.class.getDeclaredConstructors();
        Dues.due("constructors", made.length, 1);
        Dues.holds("its constructor", Modifier.isPublic(made[0].getModifiers()) && made[0].getParameterCount() == 0);
    }

    private static void hidden() {
        List<String> constants = new ArrayList<>();
        for (Field f : DreamGraves.class.getDeclaredFields()) {
            if (!Modifier.isPrivate(f.getModifiers())) {
                constants.add(f.getName());
            }
        }
        Dues.holds("constants " + constants, constants.equals(List.of("NONE", "BAD", "STATE", "FULL")));
        Class<?>[] inside = DreamGraves.class.getDeclaredClasses();
        for (Class<?> c : inside) {
            Dues.holds(c + " is static", Modifier.isStatic(c.getModifiers()));
            Dues.holds(c + " is not public", !Modifier.isPublic(c.getModifiers()));
        }
    }

    private static void names() {
        List<String> open = new ArrayList<>();
        for (String call : FACE) {
            open.add(call.substring(call.indexOf(' ') + 1, call.indexOf('(')));
        }
        List<Class<?>> all = new ArrayList<>(Arrays.asList(DreamGraves.class.getDeclaredClasses()));
        all.add(DreamGraves.class);
        for (Class<?> c : all) {
            for (Method m : c.getDeclaredMethods()) {
                boolean isFace = c == DreamGraves.class && Modifier.isPublic(m.getModifiers());
                Dues.holds(c + "." + m.getName() + " has a name of its own", isFace || !open.contains(m.getName()));
            }
        }
    }

    private static void words() throws IOException {
        String source = Files.readString(Path.of("src/main/java/DreamGraves.java"));
        String code = source.replaceAll("(?s)/\\*.*?\\*/", " ").replaceAll("//[^\n]*", " ");
        for (String word : RULED_OUT) {
            boolean isName = Character.isLetter(word.charAt(0));
            String pattern = isName ? "\\b" + word + "\\b" : Pattern.quote(word);
            Dues.holds("no " + word, !Pattern.compile(pattern).matcher(code).find());
        }
        for (String line : code.split("\n")) {
            if (line.startsWith("import ")) {
                Dues.holds(line, line.equals("import java.util.Arrays;"));
            }
        }
    }

    private FaceTest() {
    }
}
