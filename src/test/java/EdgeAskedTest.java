/** The edges that the document names of what is ASKED (promises 33 to 38), each sentence by itself. */
final class EdgeAskedTest {
    private static final int NONE = DreamGraves.NONE, BAD = DreamGraves.BAD, FULL = DreamGraves.FULL;
    private static final int NULL = -1000011, PLACE = -1000012, KIND = -1000013, SIZE = -1000014, STORE = -1000015;
    private static final int MIN = Integer.MIN_VALUE, MAX = Integer.MAX_VALUE;
    private static final String ALL_KINDS = "g4,3,3;d9,0,27,4;t6,6,0,12;w0,20,2,2;s0,0,0,0;m27,1,1,1;";

    public static void main(String[] args) {
        kindsOfSleepers();
        takenAs();
        anewAheadOfIt();
        beyondTheTrace();
        asksOfNothing();
        countsAtFirst();
        countsAtMost();
        statusOfTheLatest();
        statusOfNoRow();
        Dues.end();
    }

    private static void due(String what, long got, long want) {
        Dues.due(what, got, want);
    }

    /** "The KIND of a SLEEPER, as told (1 to 5). BAD". */
    private static void kindsOfSleepers() {
        DreamGraves x = Dues.told("g1,1,2;m0;s0;w0;t0;d0;");
        for (int one = 0; one < 5; one++) {
            due("kind", x.kind(one), 5 - one);
        }
        int[] wrong = {-1, 5, MIN, MAX};
        for (int one : wrong) {
            due("no sleeper", x.kind(one), BAD);
            due("no sleeper", x.as(one, 0), BAD);
            due("no sleeper", x.ask(one, 0), BAD);
        }
        DreamGraves single = Dues.told("g1,1,2;w0;");
        due("the only one", single.kind(0), 3);
        due("no second", single.kind(1), BAD);
        due("no second", single.as(1, 0), BAD);
        due("no second", single.ask(1, 1), BAD);
    }

    /** "A SLEEPER is taken as one of a KIND (0 .. 5). BAD; KIND: it is no such one". */
    private static void takenAs() {
        DreamGraves x = Dues.told(ALL_KINDS);
        int[] wrong = {-1, 6, MIN, MAX};
        for (int kind : wrong) {
            due("no kind", x.as(4, kind), BAD);
        }
        due("anyone is a sleeper", x.as(4, 0), 4);
        due("a girl is a wife", x.as(4, 4), 4);
        due("a wife is no girl", x.as(3, 5), KIND);
        due("a double is a dreamer", x.as(1, 1), 1);
        due("a dreamer is no double", x.as(0, 2), KIND);
        due("a double is no wrong one", x.as(1, 3), KIND);
        due("a wrong one is no double", x.as(2, 2), KIND);
        due("a wrong one is a dreamer", x.as(2, 1), 2);
        due("a girl is no dreamer", x.as(4, 1), KIND);
        due("a dreamer is no wife", x.as(0, 4), KIND);
        due("its kind stays", x.kind(4), 5);
    }

    /** "THE TRACE is empty ahead of it": a short one leaves nothing of a longer one. */
    private static void anewAheadOfIt() {
        DreamGraves x = Dues.told(ALL_KINDS);
        due("none yet", x.trace(0), NONE);
        due("the longest", x.ask(1, 0), -38);
        int[] longest = {12, 11, 10, 24, 21, 20, NONE};
        for (int i = 0; i < longest.length; i++) {
            due("trace", x.trace(i), longest[i]);
        }
        due("the shortest", x.ask(3, 0), -100);
        int[] shortest = {13, 10, NONE, NONE, NONE, NONE, NONE};
        for (int i = 0; i < shortest.length; i++) {
            due("trace", x.trace(i), shortest[i]);
        }
        x.ask(5, 0);
        x.ask(0, 2);
        due("what is refused leaves it", x.trace(1), 10);
        x.kind(0);
        x.as(0, 1);
        x.years(1);
        Dues.fed(x, "g1,1,2;d0;");
        x.yard();
        due("other calls leave it", x.trace(0), 13);
    }

    /** "Number i of THE TRACE; NONE". */
    private static void beyondTheTrace() {
        DreamGraves x = Dues.told(ALL_KINDS);
        int[] none = {-1, MIN, MAX, 15, 16, 17};
        for (int i : none) {
            due("none ahead of an ask", x.trace(i), NONE);
        }
        x.ask(4, 1);
        due("the first", x.trace(0), 23);
        due("the last", x.trace(4), 10);
        due("behind it", x.trace(5), NONE);
        for (int i : none) {
            due("none", x.trace(i), NONE);
        }
    }

    /** "An ASK (0, 1) of a SLEEPER" without any MEMORY, and with most of it. */
    private static void asksOfNothing() {
        int[] what = {-1, 2, MIN, MAX};
        String[] sorts = {"d", "t", "w", "s", "m"};
        int[] sizes = {0, 0, -1000, -100, -200};
        int[] marks = {0, 0, -1000, 100, 200};
        int[] mostSizes = {162 + 27, -(162 + 54), 162 + 27 - 1000, 62, 124};
        int[] mostMarks = {27, 54, 27 - 1000, -62, -124};
        for (int k = 0; k < sorts.length; k++) {
            DreamGraves x = Dues.told("g6,1,2;" + sorts[k] + "0,0,0,0,0,0;");
            due("size of nothing", x.ask(0, 0), sizes[k]);
            due("mark of nothing", x.ask(0, 1), marks[k]);
            for (int w : what) {
                due("no such ask", x.ask(0, w), BAD);
            }
            DreamGraves y = Dues.told("g6,1,2;" + sorts[k] + "27,27,27,27,27,27;");
            due("size of the most", y.ask(0, 0), mostSizes[k]);
            due("mark of the most", y.ask(0, 1), mostMarks[k]);
        }
    }

    /** "How many", of a new object: none; "BAD". */
    private static void countsAtFirst() {
        DreamGraves x = new DreamGraves();
        for (int what = 0; what <= 7; what++) {
            due("none", x.count(what), 0);
        }
        int[] wrong = {-1, 8, MIN, MAX};
        for (int what : wrong) {
            due("no such thing", x.count(what), BAD);
        }
    }

    /** "How many", at the most of each. */
    private static void countsAtMost() {
        DreamGraves x = Dues.told("g6,1,2;m0,0,0,0,0,0;m0,0,0,0,0,0;m0,0,0,0,0,0;m0,0,0,0,0,0;m0,0,0,0,0,0;");
        due("all graves", x.count(4), 63);
        for (int row = 0; row < 8; row++) {
            x.row(row, 0, 40);
        }
        for (int i = 0; i < 41; i++) {
            x.years(24);
        }
        x.years(15);
        for (int s = 0; s < 5; s++) {
            x.supper(s);
        }
        for (int i = 0; i < 121; i++) {
            due("feed", x.feed(0), i < 120 ? i + 1 : FULL);
        }
        int[] most = {8, 6, 5, 999, 1, 31, 24, 120};
        for (int what = 0; what <= 7; what++) {
            due("count " + what, x.count(what), most[what]);
        }
    }

    /** "Of the latest call with a ROW, or as(): the number of its FINDING; 0: it had none". */
    private static void statusOfTheLatest() {
        DreamGraves x = Dues.told("g1,1,2;d1;");
        due("there was none", x.status(), 0);
        x.row(0, 0, 1);
        x.row(1, 1, 1);
        due("none", x.status(), 0);
        finding(x, x.drop(2), NULL);
        finding(x, x.set(0, 1, 0), PLACE);
        finding(x, x.as(0, 2), KIND);
        finding(x, x.row(2, 0, -1), SIZE);
        finding(x, x.copy(0, 0, 1, 0, 1), STORE);
        finding(x, x.who(0, 2, 0, 1), NULL);
        finding(x, x.whispered(0, 0, 0, 2), PLACE);
        finding(x, x.copy(0, 0, 0, 1, 1), PLACE);
        finding(x, x.whispered(0, 3, 0, 2), NULL);
        finding(x, x.who(0, 0, 1, 1), PLACE);
        Runnable[] sound = {() -> x.row(2, 0, 0), () -> x.set(0, 0, 0), () -> x.copy(0, 0, 0, 0, 1), () -> x.drop(2),
            () -> x.who(0, 0, 0, 1), () -> x.whispered(0, 0, 0, 1), () -> x.as(0, 1)};
        for (Runnable call : sound) {
            finding(x, x.set(0, 9, 0), PLACE);
            call.run();
            due("it had none", x.status(), 0);
        }
    }

    private static void finding(DreamGraves x, int answer, int due) {
        due("finding", answer, due);
        due("its number", x.status(), -1000010 - due);
        due("asked again", x.status(), -1000010 - due);
    }

    /** Calls without a ROW leave it, whatever they answer. */
    private static void statusOfNoRow() {
        DreamGraves x = Dues.told("g1,1,2;d1;");
        Runnable[] calls = {() -> x.feed('x'), () -> x.yard(), () -> x.fault(), () -> x.supper(0), () -> x.undo(),
            () -> x.undo(), () -> x.fever(0), () -> x.tell(0, 0), () -> x.years(1), () -> x.bury(0, 0), () -> x.sleeper(0, 1),
            () -> x.memory(0, 0), () -> x.grave(0, 0), () -> x.ahead(1), () -> x.dug(0), () -> x.firstDug(),
            () -> x.suppers(1, 1, -1), () -> x.bound(0), () -> x.forgets(0, 0), () -> x.most(0, 0), () -> x.pair(0, 1),
            () -> x.cheese(1), () -> x.awake(0, 1, 0), () -> x.drawn(1, 1, 0), () -> x.image(0), () -> x.restore(0),
            () -> x.restore(1), () -> x.kind(0), () -> x.ask(0, 0), () -> x.trace(0), () -> x.count(0),
            () -> x.row(8, 0, 0), () -> x.set(8, 0, 0), () -> x.copy(8, 0, 0, 0, 0), () -> x.drop(8),
            () -> x.who(1, 0, 0, 1), () -> x.whispered(1, 0, 0, 1), () -> x.as(0, 6)};
        finding(x, x.drop(0), NULL);
        for (Runnable call : calls) {
            call.run();
            due("it stays", x.status(), 1);
        }
    }

    private EdgeAskedTest() {
    }
}
