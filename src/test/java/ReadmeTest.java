import java.io.IOException;
import java.lang.reflect.Method;
import java.lang.reflect.Modifier;
import java.nio.file.Files;
import java.nio.file.Path;
import java.util.regex.Matcher;
import java.util.regex.Pattern;

/** README.md's example answers what it says there, and README.md names every call. */
final class ReadmeTest {
    private static final Pattern TEXT = Pattern.compile("\"([^\"]+)\"\\.toCharArray");
    private static final Pattern CALL = Pattern.compile("x\\.(\\w+)\\(([-0-9, ]*)\\); +// (-?\\d+):");

    public static void main(String[] args) throws IOException, ReflectiveOperationException {
        String readme = Files.readString(Path.of("README.md"));
        example(readme);
        names(readme);
        Dues.end();
    }

    private static void example(String readme) throws ReflectiveOperationException {
        String block = readme.substring(readme.indexOf("```java"));
        block = block.substring(0, block.indexOf("\n```\n"));
        Matcher text = TEXT.matcher(block);
        Dues.holds("the example tells a text", text.find());
        DreamGraves x = Dues.fed(new DreamGraves(), text.group(1));
        Matcher call = CALL.matcher(block);
        int calls = 0;
        while (call.find()) {
            calls++;
            Dues.due(call.group(), answer(x, call.group(1), call.group(2)), Long.parseLong(call.group(3)));
        }
        Dues.due("calls of the example that tell an answer", calls, block.split("; +// -?\\d").length - 1);
    }

    private static long answer(DreamGraves x, String name, String told) throws ReflectiveOperationException {
        String[] words = told.isEmpty() ? new String[0] : told.split(", *");
        Class<?>[] types = new Class<?>[words.length];
        Object[] numbers = new Object[words.length];
        for (int i = 0; i < words.length; i++) {
            types[i] = int.class;
            numbers[i] = Integer.valueOf(words[i]);
        }
        return ((Number) DreamGraves.class.getMethod(name, types).invoke(x, numbers)).longValue();
    }

    private static void names(String readme) {
        for (Method m : DreamGraves.class.getDeclaredMethods()) {
            if (Modifier.isPublic(m.getModifiers())) {
                Dues.holds("README.md names " + m.getName(), readme.contains("`" + m.getName() + "`"));
            }
        }
    }

    private ReadmeTest() {
    }
}
