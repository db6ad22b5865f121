/** Counts answers that are not as due; every test of the project ends by it. */
final class Dues {
    private static int asked = 0;
    private static int wrong = 0;

    private Dues() {
    }

    static void due(String what, long got, long want) {
        asked++;
        if (got != want) {
            wrong++;
            System.out.println(what + " answered " + got + ", due is " + want);
        }
    }

    static void holds(String what, boolean holds) {
        due(what, holds ? 1 : 0, 1);
    }

    static void end() {
        System.out.println(asked + " answers, " + wrong + " not as due");
        if (wrong != 0 || asked == 0) {
            System.exit(1);
        }
    }

    static DreamGraves fed(DreamGraves x, String text) {
        for (int i = 0; i < text.length(); i++) {
            x.feed(text.charAt(i));
        }
        return x;
    }

    /** A text that is read with a fault at a place. */
    static void faultAt(String text, int place, int number) {
        DreamGraves x = fed(new DreamGraves(), text);
        due("yard() of " + text, x.yard(), -1000100 - place);
        due("fault() of " + text, x.fault(), number);
    }

    /** A new object in which a text was read; the text must be without a fault. */
    static DreamGraves told(String text) {
        DreamGraves x = fed(new DreamGraves(), text);
        holds("yard() of " + text, x.yard() > 0);
        return x;
    }
}
