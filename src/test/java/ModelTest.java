import java.lang.reflect.Method;
import java.util.ArrayList;
import java.util.Arrays;
import java.util.Comparator;
import java.util.List;
import java.util.Random;

/** Long runs of drawn calls, the same ones on the class and on the model; no seed is the clock's. */
final class ModelTest {
    private static final int OBJECTS = 400, CALLS = 512;
    private static final int[] FAR = {Integer.MIN_VALUE, Integer.MAX_VALUE, -1000000, 1000000, 999999, 65536, -2};

    private final Random draw;
    private final DreamGraves real = new DreamGraves();
    private final Model model = new Model();
    private int called = 0;

    private ModelTest(long seed) {
        draw = new Random(seed);
    }

    public static void main(String[] args) throws ReflectiveOperationException {
        List<Method> calls = new ArrayList<>();
        for (Method m : DreamGraves.class.getDeclaredMethods()) {
            if (java.lang.reflect.Modifier.isPublic(m.getModifiers())) {
                calls.add(m);
            }
        }
        // The machine gives methods in no told order; the draws must not hang on it.
        calls.sort(Comparator.comparing(Method::getName));
        for (int seed = 0; seed < OBJECTS; seed++) {
            new ModelTest(seed).run(calls, seed % 4 == 0);
        }
        Dues.end();
    }

    private void run(List<Method> calls, boolean wild) throws ReflectiveOperationException {
        if (draw.nextInt(10) != 0) {
            readText(validText());
        }
        while (called < CALLS - 130) {
            int kind = draw.nextInt(300);
            if (kind == 0) {
                readText(validText());
            } else if (kind == 1) {
                readText(spoilt(validText()));
            } else if (kind < 10) {
                tellForetold();
            } else {
                Method m = calls.get(draw.nextInt(calls.size()));
                // These shorten runs or take the model long, so they come more rarely.
                boolean rare = List.of("yard", "restore", "suppers", "years").contains(m.getName());
                if (!rare || draw.nextInt(m.getName().equals("suppers") ? 20 : 4) == 0) {
                    call(m, arguments(m, wild));
                }
            }
        }
    }

    private void call(Method m, Object[] arguments) throws ReflectiveOperationException {
        called++;
        long got = ((Number) m.invoke(real, arguments)).longValue();
        Method same = Model.class.getMethod(m.getName(), m.getParameterTypes());
        long want = ((Number) same.invoke(model, arguments)).longValue();
        Dues.due(m.getName() + Arrays.toString(arguments) + " as call " + called, got, want);
    }

    private void readText(String text) {
        for (int i = 0; i < text.length(); i++) {
            called++;
            Dues.due("feed", real.feed(text.charAt(i)), model.feed(text.charAt(i)));
        }
        called++;
        Dues.due("yard of " + text, real.yard(), model.yard());
        Dues.due("fault of " + text, real.fault(), model.fault());
    }

    /** Puts into a row what is kept in years to come, so that who and whispered find somebody. */
    private void tellForetold() {
        int row = draw.nextInt(8);
        int n = 1 + draw.nextInt(6);
        Dues.due("row", real.row(row, 2, n), model.row(row, 2, n));
        for (int i = 0; i < n; i++) {
            int kept = Math.max(0, model.ahead(i + 1));
            Dues.due("set", real.set(row, i, kept), model.set(row, i, kept));
        }
        int one = draw.nextInt(5);
        Dues.due("who", real.who(one, row, 0, n), model.who(one, row, 0, n));
        Dues.due("whispered", real.whispered(one, row, 0, n), model.whispered(one, row, 0, n));
        called += n + 3;
    }

    private Object[] arguments(Method m, boolean wild) {
        Object[] arguments = new Object[m.getParameterCount()];
        for (int i = 0; i < arguments.length; i++) {
            arguments[i] = number(m.getName(), i, wild);
        }
        return arguments;
    }

    private int number(String name, int i, boolean wild) {
        if (wild && draw.nextInt(12) == 0) {
            return FAR[draw.nextInt(FAR.length)];
        }
        if (name.equals("suppers")) {
            return i == 0 ? draw.nextInt(20) : i == 1 ? 1 + draw.nextInt(3) : draw.nextInt(4) - 1;
        }
        if (name.equals("drawn")) {
            return i == 0 ? draw.nextInt(41) : i == 1 ? 1 + draw.nextInt(999999) : draw.nextInt(2);
        }
        if (name.equals("ahead") || name.equals("cheese")) {
            return draw.nextInt(44) - 1;
        }
        if (name.equals("feed")) {
            return "g1,;d0".charAt(draw.nextInt(6));
        }
        if (name.equals("set") && i == 2) {
            return draw.nextInt(70000) - 1000;
        }
        if (name.equals("row") && i == 2) {
            return draw.nextInt(44) - 2;
        }
        if (name.equals("years")) {
            return draw.nextInt(10) == 0 ? draw.nextInt(27) - 1 : 1 + draw.nextInt(3);
        }
        return draw.nextInt(name.equals("copy") ? 9 : 6) - (draw.nextInt(8) == 0 ? 1 : 0);
    }

    private String validText() {
        int graves = 1 + draw.nextInt(6);
        int sleepers = 1 + draw.nextInt(5);
        StringBuilder text = new StringBuilder("g" + graves + "," + (1 + draw.nextInt(9)) + "," + (2 + draw.nextInt(8)) + ";");
        for (int s = 0; s < sleepers; s++) {
            text.append("dtwsm".charAt(draw.nextInt(5)));
            for (int g = 0; g < graves; g++) {
                text.append(g == 0 ? "" : ",").append(draw.nextInt(4) == 0 ? 0 : draw.nextInt(28));
            }
            text.append(";");
        }
        return text.length() > 110 ? "g2,3,2;d5,6;t9,8;s0,0;" : text.toString();
    }

    private String spoilt(String text) {
        StringBuilder spoilt = new StringBuilder(text);
        int at = draw.nextInt(text.length());
        char sign = "0123456789,;dtwsmgx \u00e9".charAt(draw.nextInt(21));
        switch (draw.nextInt(4)) {
            case 0: spoilt.setCharAt(at, sign); break;
            case 1: spoilt.insert(at, sign); break;
            case 2: spoilt.setLength(at); break;
            default: spoilt.deleteCharAt(at); break;
        }
        return spoilt.toString();
    }
}
