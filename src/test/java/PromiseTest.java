/** For each promise of the document: ordinary inputs, the edges it names, wrong inputs. */
final class PromiseTest {
    private static final int NONE = DreamGraves.NONE, BAD = DreamGraves.BAD;
    private static final int STATE = DreamGraves.STATE, FULL = DreamGraves.FULL;
    private static final int NULL = -1000011, PLACE = -1000012, KIND = -1000013, SIZE = -1000014, STORE = -1000015;

    /** One sleeper of each kind. LEAST 3, SHARE 3. */
    private static final String ALL_KINDS = "g4,3,3;d9,0,27,4;t6,6,0,12;w0,20,2,2;s0,0,0,0;m27,1,1,1;";
    /** Two who dream of grave 0; grave 1 is dug in the first year. LEAST 5, SHARE 4. */
    private static final String TWO = "g2,5,4;d9,5;w5,9;";

    public static void main(String[] args) {
        newObject();
        rows();
        copies();
        drops();
        feeds();
        yardsRead();
        faults();
        faultsInOrder();
        undone();
        yearsPass();
        suppersGiven();
        fevers();
        tales();
        burials();
        sleepers();
        gravesAndMemories();
        dreams();
        aheadAndDug();
        fewestSuppers();
        bounds();
        forgotten();
        mostAndPair();
        whoItIs();
        whoWhispered();
        cheeses();
        awakes();
        draws();
        images();
        kindsAndAs();
        asks();
        counts();
        statuses();
        Dues.end();
    }

    private static void due(String what, long got, long want) {
        Dues.due(what, got, want);
    }

    private static DreamGraves told(String text) {
        return Dues.told(text);
    }

    // 1
    private static void newObject() {
        due("NONE", NONE, -1000000);
        due("BAD", BAD, -1000001);
        due("STATE", STATE, -1000002);
        due("FULL", FULL, -1000003);
        DreamGraves x = new DreamGraves();
        for (int what = 0; what <= 7; what++) {
            due("count of a new object", x.count(what), 0);
        }
        due("no yard", x.ahead(0), STATE);
        due("no fault", x.fault(), 0);
        due("no status", x.status(), 0);
        due("no trace", x.trace(0), NONE);
    }

    // 2, 3
    private static void rows() {
        DreamGraves x = new DreamGraves();
        due("row", x.row(7, 2, 40), 40);
        due("row of none", x.row(0, 0, 0), 0);
        due("rows", x.count(0), 2);
        due("row below", x.row(-1, 0, 1), BAD);
        due("row above", x.row(8, 0, 1), BAD);
        due("lane below", x.row(0, -1, 1), BAD);
        due("lane above", x.row(0, 3, -1), BAD);
        due("41 items", x.row(0, 0, 41), BAD);
        due("size", x.row(0, 0, -1), SIZE);
        due("least size", x.row(0, 0, Integer.MIN_VALUE), SIZE);
        due("set in a row of none", x.set(0, 0, 1), PLACE);
        due("int", x.set(7, 39, Integer.MIN_VALUE), Integer.MIN_VALUE);
        due("place 40", x.set(7, 40, 1), PLACE);
        due("place below", x.set(7, -1, 1), PLACE);
        due("missing", x.set(1, -1, 1), NULL);
        due("no row", x.set(8, 0, 1), BAD);
        x.row(1, 0, 3);
        due("byte", x.set(1, 0, 127), 127);
        due("byte over", x.set(1, 1, 128), -128);
        due("byte of more", x.set(1, 2, 0x12345), 0x45);
        x.row(2, 1, 2);
        due("short", x.set(2, 0, 32768), -32768);
        due("short of more", x.set(2, 1, 0x12345), 0x2345);
        DreamGraves y = told("g1,1,2;s0;");
        y.row(0, 2, 2);
        y.set(0, 0, 1);
        due("one item is as told", y.who(0, 0, 0, 1), 48);
        y.row(0, 2, 2);
        due("laid anew it is 0", y.who(0, 0, 0, 1), 14);
    }

    // 4
    private static void copies() {
        DreamGraves x = told("g3,1,2;s0,0,0;d9,9,0;");
        x.row(0, 0, 4);
        x.row(1, 0, 2);
        x.row(2, 1, 4);
        due("from no row", x.copy(-1, 0, 3, 0, 0), BAD);
        due("to no row", x.copy(3, 0, 8, 0, 0), BAD);
        due("from missing", x.copy(3, -1, 2, 0, 0), NULL);
        due("to missing", x.copy(0, -1, 3, 0, 0), NULL);
        due("two lanes", x.copy(0, -1, 2, 0, 0), STORE);
        due("i below", x.copy(0, -1, 1, 0, 0), PLACE);
        due("j below", x.copy(0, 0, 1, -1, 0), PLACE);
        due("n below", x.copy(0, 0, 1, 0, -1), PLACE);
        due("beyond the end of a", x.copy(0, 3, 1, 0, 2), PLACE);
        due("beyond the end of b", x.copy(0, 0, 1, 1, 2), PLACE);
        due("a sum that overflows", x.copy(0, Integer.MAX_VALUE, 1, 0, Integer.MAX_VALUE), PLACE);
        due("none at the ends", x.copy(0, 4, 1, 2, 0), 0);
        x.set(0, 0, 1);
        x.set(0, 1, 2);
        x.set(0, 2, 3);
        due("over itself", x.copy(0, 0, 0, 1, 3), 3);
        // 1 1 2 3 now: told by who, as graves are kept
        x.copy(0, 1, 1, 0, 2);
        due("told items", itemOf(x, 0, 3), 3);
        due("told items", itemOf(x, 0, 2), 2);
        due("told items", itemOf(x, 1, 0), 1);
        due("told items", itemOf(x, 1, 1), 2);
    }

    /** The item from 0 to 7 of a row, found by whispers of a yard whose kept graves are known. */
    private static int itemOf(DreamGraves x, int row, int i) {
        for (int kept = 1; kept <= 7; kept++) {
            StringBuilder memories = new StringBuilder();
            for (int g = 0; g < 3; g++) {
                memories.append(g == 0 ? "" : ",").append((kept >> g & 1) != 0 ? 9 : 0);
            }
            Dues.fed(x, "g3,1,2;t" + memories + ";d0,0," + ((kept >> 2 & 1) != 0 ? 9 : 0) + ";");
            x.yard();
            if (x.ahead(1) == kept && (x.who(1, row, i, 1) & 2) != 0) {
                return kept;
            }
        }
        return NONE;
    }

    // 5
    private static void drops() {
        DreamGraves x = new DreamGraves();
        x.row(3, 1, 7);
        due("drop", x.drop(3), 7);
        due("rows", x.count(0), 0);
        due("again", x.drop(3), NULL);
        due("set", x.set(3, 0, 0), NULL);
        due("no row", x.drop(8), BAD);
        due("no row", x.drop(-1), BAD);
    }

    // 6
    private static void feeds() {
        DreamGraves x = new DreamGraves();
        due("below", x.feed(-1), BAD);
        due("above", x.feed(256), BAD);
        for (int i = 1; i <= 120; i++) {
            due("feed", x.feed(i % 2 == 0 ? 0 : 255), i);
        }
        due("full", x.feed(0), FULL);
        due("BAD ahead of FULL", x.feed(256), BAD);
        due("bytes", x.count(7), 120);
        due("read", x.yard(), -1000100);
        due("empty then", x.count(7), 0);
        due("anew", x.feed(103), 1);
    }

    // 7
    private static void yardsRead() {
        DreamGraves x = told(ALL_KINDS);
        due("graves", x.count(1), 4);
        due("sleepers", x.count(2), 5);
        due("kept", x.count(4), 15);
        x.supper(0);
        x.fever(1);
        x.years(3);
        x.supper(2);
        Dues.fed(x, TWO);
        due("another", x.yard(), 2);
        due("bytes", x.count(7), 0);
        due("year", x.count(3), 0);
        due("kept", x.count(4), 3);
        due("suppers", x.count(5), 0);
        due("acts", x.count(6), 0);
        due("undo", x.undo(), STATE);
        due("memory", x.memory(1, 1), 9);
        due("law", x.forgets(0, 0), 2);
        x.years(1);
        Dues.fed(x, "g1,1,1;d0;");
        due("fault", x.yard(), -1000105);
        due("all stays: year", x.count(3), 1);
        due("all stays: acts", x.count(6), 1);
        due("all stays: graves", x.count(1), 2);
        due("the tape is empty", x.count(7), 0);
        Dues.fed(x, "g06,09,02;d00,01,27,3,4,5;");
        due("figures with noughts", x.yard(), 1);
        due("memory", x.memory(0, 1), 1);
        due("graves", x.count(1), 6);
    }

    private static void faultAt(String text, int place, int number) {
        Dues.faultAt(text, place, number);
    }

    // 7, 8
    private static void faults() {
        faultAt("", 0, 1);
        faultAt("g", 1, 1);
        faultAt("d1;", 0, 1);
        faultAt("G1,1,2;d0;", 0, 1);
        faultAt(" g1,1,2;d0;", 0, 1);
        faultAt("gg", 1, 1);
        faultAt("g0,1,2;d0;", 1, 2);
        faultAt("g7,1,2;d0;", 1, 2);
        faultAt("g1;1,2;d0;", 2, 1);
        faultAt("g1,0,2;d0;", 3, 2);
        faultAt("g1,10,2;d0;", 3, 2);
        faultAt("g1,1,1;d0;", 5, 2);
        faultAt("g1,1,10;d0;", 5, 2);
        faultAt("g1,1,2,d0;", 6, 1);
        faultAt("g1,1,2;", 7, 1);
        faultAt("g1,1,2;x0;", 7, 1);
        faultAt("g1,1,2;d28;", 8, 2);
        faultAt("g1,1,2;d99;", 8, 2);
        faultAt("g1,1,2;d100;", 8, 1);
        faultAt("g1,1,2;d0001;", 8, 1);
        faultAt("g1,1,2;d;", 8, 1);
        faultAt("g1,1,2;d0", 9, 1);
        faultAt("g1,1,2;d0,0;", 9, 1);
        faultAt("g2,1,2;d0;", 9, 1);
        faultAt("g2,1,2;d0,;", 10, 1);
        faultAt("g1,1,2;d0;;", 10, 1);
        faultAt("g1,1,2;d0;d", 11, 1);
        faultAt("g001,1,2;d0;", 1, 1);
        faultAt("g1,1,2;d0 ;", 9, 1);
        faultAt("g1,1,2;d0;s0;d0;d0;d0;m0;", 22, 3);
        faultAt("g1,1,2;d0;d0;d0;d0;d0;m", 22, 3);
        faultAt("g1,1,2;d0;d0;d0;d0;d0;x0;", 22, 1);
        faultAt("g1,1,2;d0;d0;d0;d0;d0;1", 22, 1);
        faultAt("g1,1,2;d0;d0;d0;d0;d0;;", 22, 1);
        for (int letter = 0; letter < 256; letter++) {
            if ("dtwsm".indexOf(letter) < 0) {
                faultAt("g1,1,2;" + (char) letter + "0;", 7, 1);
            }
        }
    }

    // 8
    private static void faultsInOrder() {
        DreamGraves x = Dues.fed(new DreamGraves(), "g9");
        x.yard();
        due("fault", x.fault(), 2);
        Dues.fed(x, TWO);
        x.yard();
        due("the latest stays", x.fault(), 2);
        x.yard();
        due("another", x.fault(), 1);
    }

    // 9
    private static void undone() {
        DreamGraves x = told(TWO);
        due("none", x.undo(), STATE);
        x.supper(0);
        x.fever(0);
        x.tell(0, 1);
        x.years(2);
        due("acts", x.count(6), 5);
        due("a year", x.undo(), 4);
        due("year", x.count(3), 1);
        due("a year", x.undo(), 3);
        due("year", x.count(3), 0);
        due("supper", x.sleeper(0, 2), 1);
        due("fever", x.sleeper(0, 3), 1);
        due("memory told", x.memory(0, 1), 27);
        due("a tale", x.undo(), 2);
        due("memory", x.memory(0, 1), 5);
        due("a fever", x.undo(), 1);
        due("no fever", x.sleeper(0, 3), 0);
        due("a supper", x.undo(), 0);
        due("no supper", x.count(5), 0);
        due("none", x.undo(), STATE);
        x.years(1);
        x.bury(1, 0);
        due("a burial", x.undo(), 1);
        due("dug", x.grave(1, 0), 0);
        due("no memory", x.memory(0, 1), 0);
        x.undo();
        x.years(24);
        due("acts", x.count(6), 24);
        x.years(6);
        due("24 at most", x.count(6), 24);
        for (int left = 23; left >= 0; left--) {
            due("undo", x.undo(), left);
        }
        due("the oldest are forgotten", x.undo(), STATE);
        due("year", x.count(3), 6);
        due("undone again after years", x.years(1) >= 0 ? x.undo() : BAD, 0);
    }

    // 10
    private static void yearsPass() {
        DreamGraves none = new DreamGraves();
        due("STATE ahead of BAD", none.years(0), STATE);
        DreamGraves x = told(TWO);
        due("0", x.years(0), BAD);
        due("25", x.years(25), BAD);
        due("below", x.years(-1), BAD);
        due("a year", x.years(1), 1);
        due("memory", x.memory(0, 0), 6);
        due("memory", x.memory(1, 0), 3);
        due("of what is dug", x.memory(1, 1), 0);
        x.supper(0);
        due("with a supper", x.years(1), 1);
        due("memory", x.memory(0, 0), 6);
        due("the supper is over", x.count(5), 0);
        for (int i = 0; i < 41; i++) {
            x.years(24);
        }
        due("year", x.count(3), 986);
        due("above 999", x.years(14), FULL);
        due("year", x.count(3), 986);
        due("BAD ahead of FULL", x.years(25), BAD);
        due("999", x.years(13), 0);
        due("above 999", x.years(1), FULL);
        due("acts", x.count(6), 24);
        due("foretold beyond 999", x.ahead(40), 0);
        DreamGraves y = told("g1,9,2;d1;m2;m3;m4;");
        y.years(1);
        due("1 by 2, and 1", y.memory(0, 0), 0);
        due("2 by 2, and 1", y.memory(1, 0), 0);
        due("3 by 2, and 1", y.memory(2, 0), 1);
        due("4 by 2, and 1", y.memory(3, 0), 1);
        DreamGraves z = told("g1,1,9;m8;m9;m27;");
        z.years(1);
        due("8 by 9, and 1", z.memory(0, 0), 7);
        due("9 by 9, and 1", z.memory(1, 0), 7);
        due("27 by 9, and 1", z.memory(2, 0), 23);
    }

    // 11
    private static void suppersGiven() {
        due("no yard", new DreamGraves().supper(0), BAD);
        DreamGraves x = told(ALL_KINDS);
        due("supper", x.supper(4), 1);
        due("supper", x.supper(1), 2);
        due("it has one", x.supper(4), STATE);
        due("below", x.supper(-1), BAD);
        due("above", x.supper(5), BAD);
        due("who", x.count(5), 18);
        due("acts", x.count(6), 2);
        x.years(1);
        due("over", x.supper(4), 1);
    }

    // 12
    private static void fevers() {
        due("no yard", new DreamGraves().fever(0), BAD);
        DreamGraves x = told(ALL_KINDS);
        due("a dreamer", x.fever(0), 13);
        due("two", x.fever(1), 11);
        due("wrong face", x.fever(2), 14);
        due("wife", x.fever(3), 1);
        due("girl", x.fever(4), 15);
        due("it has one", x.fever(4), STATE);
        due("below", x.fever(-1), BAD);
        due("above", x.fever(5), BAD);
        due("acts", x.count(6), 5);
        due("all are kept by it", x.years(1), 15);
        due("over", x.sleeper(4, 3), 0);
        DreamGraves y = told("g3,9,2;d1,1,1;s0,0,0;");
        y.years(1);
        due("kept alone", y.fever(0), 0);
    }

    // 13
    private static void tales() {
        due("no yard", new DreamGraves().tell(0, 0), BAD);
        DreamGraves x = told(TWO);
        due("tale", x.tell(0, 1), 5);
        due("memory", x.memory(0, 1), 27);
        due("again", x.tell(0, 1), 27);
        due("acts", x.count(6), 2);
        due("no sleeper", x.tell(2, 0), BAD);
        due("no sleeper", x.tell(-1, 0), BAD);
        due("no grave", x.tell(0, 2), BAD);
        due("no grave", x.tell(0, -1), BAD);
        x.undo();
        x.undo();
        x.years(1);
        due("dug", x.tell(0, 1), STATE);
        due("BAD ahead of STATE", x.tell(2, 1), BAD);
        due("acts", x.count(6), 1);
    }

    // 14
    private static void burials() {
        due("no yard", new DreamGraves().bury(0, 0), BAD);
        DreamGraves x = told(TWO);
        due("not dug", x.bury(1, 0), STATE);
        x.years(1);
        due("not dug", x.bury(0, 0), STATE);
        due("no grave", x.bury(2, 0), BAD);
        due("no grave", x.bury(-1, 0), BAD);
        due("no sleeper", x.bury(1, 2), BAD);
        due("no sleeper", x.bury(1, -1), BAD);
        due("burial", x.bury(1, 0), 3);
        due("memory", x.memory(0, 1), 27);
        due("of others", x.memory(1, 1), 0);
        due("acts", x.count(6), 2);
    }

    // 15
    private static void sleepers() {
        due("no yard", new DreamGraves().sleeper(0, 0), BAD);
        DreamGraves x = told(ALL_KINDS);
        due("dreams", x.sleeper(1, 0), 9);
        due("all memory", x.sleeper(1, 1), 24);
        due("no supper", x.sleeper(1, 2), 0);
        due("no fever", x.sleeper(1, 3), 0);
        x.supper(1);
        due("supper", x.sleeper(1, 2), 1);
        due("no fever", x.sleeper(1, 3), 0);
        x.fever(1);
        due("fever", x.sleeper(1, 3), 1);
        due("dreams", x.sleeper(1, 0), 11);
        due("what below", x.sleeper(0, -1), BAD);
        due("what above", x.sleeper(0, 4), BAD);
        due("no sleeper", x.sleeper(5, 0), BAD);
        due("no sleeper", x.sleeper(-1, 0), BAD);
    }

    // 16, 17
    private static void gravesAndMemories() {
        DreamGraves none = new DreamGraves();
        due("no yard", none.memory(0, 0), BAD);
        due("STATE ahead of BAD", none.grave(-1, 9), STATE);
        DreamGraves x = told(ALL_KINDS);
        due("memory", x.memory(0, 2), 27);
        due("memory", x.memory(2, 1), 20);
        due("no grave", x.memory(0, 4), BAD);
        due("no grave", x.memory(0, -1), BAD);
        due("no sleeper", x.memory(5, 0), BAD);
        due("no sleeper", x.memory(-1, 0), BAD);
        due("kept", x.grave(1, 0), 1);
        due("nobody", x.grave(1, 1), 0);
        due("who dreams", x.grave(0, 1), 26);
        due("who dreams", x.grave(2, 1), 5);
        due("no grave", x.grave(4, 0), BAD);
        due("no grave", x.grave(-1, 0), BAD);
        due("what above", x.grave(0, 2), BAD);
        due("what below", x.grave(0, -1), BAD);
        x.years(1);
        due("dug", x.grave(1, 0), 0);
    }

    private static void dreams() {
        DreamGraves x = told("g3,5,2;d5,5,4;d4,4,4;t4,9,9;t4,4,9;w0,0,5;");
        due("of several the first", x.sleeper(0, 0), 1);
        due("less than LEAST", x.sleeper(1, 0), 0);
        due("two", x.sleeper(2, 0), 6);
        due("the other less than LEAST", x.sleeper(3, 0), 4);
        due("behind the last", x.sleeper(4, 0), 1);
        DreamGraves y = told("g3,5,2;w9,0,0;w4,4,4;s0,0,0;m0,0,0;");
        due("behind the first", y.sleeper(0, 0), 2);
        due("no dream", y.sleeper(1, 0), 0);
        y.years(1);
        due("the wife's second year", y.sleeper(2, 0), 2);
        due("the girl's second year", y.sleeper(3, 0), 3);
        y.years(1);
        due("the wife's third year, of a dug grave", y.sleeper(2, 0), 4);
        due("the girl's third year", y.sleeper(3, 0), 5);
        due("who dreams of a dug grave", y.grave(2, 1), 12);
        y.years(1);
        due("the wife's fourth year", y.sleeper(2, 0), 1);
        DreamGraves z = told("g3,5,9;d27,20,0;s0,0,0;");
        z.years(1);
        due("dug", z.count(4), 1);
        z.bury(1, 1);
        due("memory of one alone", z.memory(0, 1), 0);
        DreamGraves one = told("g1,1,2;w1;");
        due("the only grave is behind itself", one.sleeper(0, 0), 1);
        DreamGraves wrong = told("g2,1,9;w9,0;d0,0;");
        wrong.years(1);
        due("of what is dug nobody has memory", wrong.memory(0, 0), 0);
        wrong.bury(0, 1);
        wrong.years(1);
        due("kept by a dreamer", wrong.count(4), 1);
        wrong.tell(0, 0);
        due("of a grave that is not kept", wrong.sleeper(0, 0), 2);
    }

    // 18, 19, 20
    private static void aheadAndDug() {
        DreamGraves none = new DreamGraves();
        due("STATE ahead of BAD", none.ahead(41), STATE);
        due("STATE ahead of BAD", none.dug(-1), STATE);
        due("no yard", none.firstDug(), STATE);
        DreamGraves x = told(TWO);
        due("ahead", x.ahead(0), 3);
        due("ahead", x.ahead(1), 1);
        due("ahead", x.ahead(2), 1);
        due("ahead", x.ahead(3), 0);
        due("ahead", x.ahead(40), 0);
        due("below", x.ahead(-1), BAD);
        due("above", x.ahead(41), BAD);
        due("dug", x.dug(0), 3);
        due("dug", x.dug(1), 1);
        due("no grave", x.dug(2), BAD);
        due("no grave", x.dug(-1), BAD);
        due("first", x.firstDug(), 1);
        x.supper(0);
        due("with a supper this year", x.dug(0), 4);
        x.undo();
        x.years(1);
        due("is dug", x.dug(1), 0);
        due("first of the kept", x.firstDug(), 0);
        x.years(2);
        due("none is kept", x.firstDug(), NONE);
        DreamGraves y = told("g1,1,2;s0;");
        due("never", y.dug(0), NONE);
        due("never", y.firstDug(), NONE);
        DreamGraves z = told("g3,9,2;d1,1,1;s0,0,0;");
        due("of several the first", z.firstDug(), 1);
        z.fever(0);
        due("a fever this year alone", z.dug(2), 2);
        due("nothing changes", z.count(3), 0);
        due("nothing changes", z.sleeper(0, 3), 1);
    }

    // 21
    private static void fewestSuppers() {
        due("STATE ahead of BAD", new DreamGraves().suppers(-1, 0, -2), STATE);
        DreamGraves x = told(TWO);
        due("graves above", x.suppers(4, 1, -1), BAD);
        due("graves below", x.suppers(-1, 1, -1), BAD);
        due("n below", x.suppers(1, 0, -1), BAD);
        due("n above", x.suppers(1, 4, -1), BAD);
        due("j below", x.suppers(1, 1, -2), BAD);
        due("no graves need none", x.suppers(0, 3, -1), 0);
        due("none", x.suppers(2, 1, -1), NONE);
        due("none", x.suppers(2, 1, 0), NONE);
        due("one", x.suppers(1, 3, -1), 1);
        due("not this year", x.suppers(1, 3, 0), 0);
        due("the next", x.suppers(1, 3, 1), 1);
        due("not the last", x.suppers(1, 3, 2), 0);
        due("from n on", x.suppers(1, 3, 3), NONE);
        due("from n on", x.suppers(1, 2, 2), NONE);
        due("from n on", x.suppers(1, 1, Integer.MAX_VALUE), NONE);
        x.supper(0);
        due("told already", x.suppers(1, 3, -1), 0);
        due("told already", x.suppers(1, 3, 0), 0);
        DreamGraves y = told("g2,9,2;d9,0;d0,9;");
        due("two in this year", y.suppers(3, 2, -1), 2);
        due("two in this year", y.suppers(3, 2, 0), 3);
        due("two years", y.suppers(3, 3, -1), 4);
        due("two years", y.suppers(3, 3, 1), 3);
        due("one of them", y.suppers(2, 3, -1), 2);
        due("one of them", y.suppers(2, 3, 0), 2);
        y.supper(1);
        due("one is told", y.suppers(3, 2, -1), 1);
        due("the other", y.suppers(3, 2, 0), 1);
        due("nothing changes", y.count(5), 2);
    }

    // 22
    private static void bounds() {
        due("STATE ahead of BAD", new DreamGraves().bound(-1), STATE);
        DreamGraves x = told(TWO);
        due("never", x.bound(0), NONE);
        due("nobody dreams of it", x.bound(1), 1);
        due("no grave", x.bound(2), BAD);
        due("no grave", x.bound(-1), BAD);
        x.years(1);
        due("dug", x.bound(1), 0);
        DreamGraves y = told("g2,9,2;d9,1;");
        y.fever(0);
        due("a fever this year", y.bound(1), 2);
    }

    // 23
    private static void forgotten() {
        due("no yard", new DreamGraves().forgets(0, 0), BAD);
        DreamGraves x = told("g2,5,9;d27,5;w4,0;");
        due("27 23 20 17 15 13 11 9 7 6 5 4", x.forgets(0, 0), 11);
        due("5 4", x.forgets(0, 1), 1);
        due("now", x.forgets(1, 0), 0);
        due("now", x.forgets(1, 1), 0);
        x.supper(0);
        due("had it no supper", x.forgets(0, 1), 1);
        due("dug in the first year or not", x.forgets(0, 0), 11);
        due("no sleeper", x.forgets(2, 0), BAD);
        due("no sleeper", x.forgets(-1, 0), BAD);
        due("no grave", x.forgets(0, 2), BAD);
        due("no grave", x.forgets(0, -1), BAD);
    }

    // 24, 25
    private static void mostAndPair() {
        DreamGraves none = new DreamGraves();
        due("no yard", none.most(0, 0), BAD);
        due("no yard", none.pair(0, 1), BAD);
        DreamGraves x = told("g3,5,2;d0,4,4;t9,9,0;d8,9,0;s0,0,0;");
        due("of several the first", x.most(0, 0), 1);
        due("how much", x.most(0, 1), 4);
        due("of none the first", x.most(3, 0), 0);
        due("of none", x.most(3, 1), 0);
        due("what below", x.most(0, -1), BAD);
        due("what above", x.most(0, 2), BAD);
        due("no sleeper", x.most(4, 0), BAD);
        due("no sleeper", x.most(-1, 0), BAD);
        due("pair", x.pair(1, 2), 2);
        due("pair", x.pair(3, 1), 1);
        due("no pair", x.pair(0, 1), 0);
        due("alike", x.pair(1, 1), BAD);
        due("no sleeper", x.pair(1, 4), BAD);
        due("no sleeper", x.pair(-1, 1), BAD);
    }

    // 26
    private static void whoItIs() {
        due("no yard", new DreamGraves().who(0, 0, 0, 1), BAD);
        DreamGraves x = told(TWO);
        due("missing", x.who(0, 1, -1, 1), NULL);
        x.row(1, 0, 13);
        x.set(1, 0, 1);
        x.set(1, 1, 1);
        due("one year", x.who(0, 1, 0, 1), 50);
        due("four years", x.who(0, 1, 0, 4), 2);
        due("twelve years", x.who(0, 1, 0, 12), 2);
        due("from i on a wife, whose second year is grave 1's", x.who(0, 1, 1, 12), 16);
        due("beyond the end", x.who(0, 1, 2, 12), PLACE);
        due("place below", x.who(0, 1, -1, 1), PLACE);
        due("place far", x.who(0, 1, Integer.MAX_VALUE, 1), PLACE);
        due("13 years", x.who(0, 1, 0, 13), BAD);
        due("0 years", x.who(0, 1, 0, 0), BAD);
        due("no sleeper", x.who(2, 1, 0, 1), BAD);
        due("no row", x.who(0, 8, 0, 1), BAD);
        due("nothing changes", x.kind(0), 1);
        x.set(1, 0, 257);
        due("a byte's 257 is 1", x.who(0, 1, 0, 1), 50);
        x.row(2, 2, 1);
        x.set(2, 0, 257);
        due("an int's 257 is not", x.who(0, 2, 0, 1), 0);
    }

    // 27
    private static void whoWhispered() {
        due("STATE ahead of BAD", new DreamGraves().whispered(-1, 0, 0, 9), STATE);
        DreamGraves x = told(TWO);
        due("missing", x.whispered(0, 1, -1, 1), NULL);
        x.row(1, 0, 6);
        x.set(1, 0, 1);
        x.set(1, 1, 1);
        due("two years", x.whispered(0, 1, 0, 2), 1);
        due("four years", x.whispered(1, 1, 0, 4), 2);
        due("beyond the end", x.whispered(0, 1, 1, 6), PLACE);
        due("7 years", x.whispered(0, 1, 0, 7), BAD);
        due("0 years", x.whispered(0, 1, 0, 0), BAD);
        due("no grave", x.whispered(2, 1, 0, 1), BAD);
        due("no row", x.whispered(0, -1, 0, 1), BAD);
        due("nothing changes", x.memory(0, 0), 9);
    }

    // 28
    private static void cheeses() {
        due("STATE ahead of BAD", new DreamGraves().cheese(0), STATE);
        DreamGraves x = told(TWO);
        due("0", x.cheese(0), BAD);
        due("41", x.cheese(41), BAD);
        due("one year", x.cheese(1), 0);
        due("two years", x.cheese(2), 1);
        due("three years", x.cheese(3), 2);
        due("forty years", x.cheese(40), 39);
        x.supper(0);
        due("told suppers are put aside", x.cheese(2), 1);
        due("but stay", x.count(5), 1);
    }

    // 29
    private static void awakes() {
        due("STATE ahead of BAD", new DreamGraves().awake(-1, 11, 2), STATE);
        DreamGraves x = told(TWO);
        due("above", x.awake(0, 4, 0), 21);
        due("below", x.awake(0, 4, 1), 25);
        due("nobody dreams of it", x.awake(1, 4, 0), 0);
        due("nobody dreams of it", x.awake(1, 0, 1), 1);
        due("nobody lies awake", x.awake(0, 0, 0), 1);
        due("nobody lies awake", x.awake(0, 0, 1), 1);
        due("all lie awake", x.awake(0, 10, 0), 0);
        due("all lie awake", x.awake(0, 10, 1), 1);
        due("p below", x.awake(0, -1, 0), BAD);
        due("p above", x.awake(0, 11, 0), BAD);
        due("what below", x.awake(0, 1, -1), BAD);
        due("what above", x.awake(0, 1, 2), BAD);
        due("no grave", x.awake(2, 1, 0), BAD);
        due("no grave", x.awake(-1, 1, 0), BAD);
        DreamGraves y = told("g1,1,2;s0;s0;s0;m0;m0;");
        due("100000 less 3 five times", y.awake(0, 3, 0), 99757);
        due("100000", y.awake(0, 3, 1), 100000);
        DreamGraves z = told("g2,1,2;s0,0;");
        z.years(1);
        due("the wife dreams of a dug grave", z.grave(1, 1), 1);
        due("it is not kept by it", z.awake(1, 0, 0), 0);
        due("it is not kept by it", z.awake(1, 0, 1), 1);
    }

    // 30
    private static void draws() {
        due("STATE ahead of BAD", new DreamGraves().drawn(-1, 0, 2), STATE);
        DreamGraves x = told(TWO);
        due("n below", x.drawn(-1, 1, 0), BAD);
        due("n above", x.drawn(41, 1, 0), BAD);
        due("seed 0", x.drawn(1, 0, 0), BAD);
        due("seed above", x.drawn(1, 1000000, 0), BAD);
        due("what below", x.drawn(1, 1, -1), BAD);
        due("what above", x.drawn(1, 1, 2), BAD);
        due("no years", x.drawn(0, 1, 0), 3);
        due("no years", x.drawn(0, 1, 1), 28);
        // X is 16807: a supper for sleeper 1, no fever (it leaves 1 by 3)
        due("a year", x.drawn(1, 1, 0), 1);
        due("a year's memory: 6 and 5", x.drawn(1, 1, 1), 11);
        // X is 50421: a supper for sleeper 1, a fever of sleeper 1, grave 1 is kept by it
        due("a year with a fever", x.drawn(1, 3, 0), 3);
        due("its memory: 6 3 5 9", x.drawn(1, 3, 1), 23);
        x.supper(0);
        due("with a supper told", x.drawn(1, 1, 1), 14);
        due("nothing changes", x.count(5), 1);
        due("the greatest seed", x.drawn(40, 999999, 0), 0);
    }

    // 31, 32
    private static void images() {
        DreamGraves x = new DreamGraves();
        due("BAD ahead of STATE", x.image(2), BAD);
        due("BAD ahead of STATE", x.restore(-1), BAD);
        due("no yard", x.image(0), STATE);
        due("none was kept", x.restore(0), STATE);
        Dues.fed(x, TWO);
        x.yard();
        x.supper(1);
        x.fever(0);
        due("image", x.image(0), 1);
        due("acts stay", x.count(6), 2);
        due("the other was not kept", x.restore(1), STATE);
        x.years(3);
        due("another", x.image(1), 1);
        Dues.fed(x, ALL_KINDS);
        x.yard();
        x.years(1);
        due("restore", x.restore(0), 1);
        due("graves", x.count(1), 2);
        due("sleepers", x.count(2), 2);
        due("year", x.count(3), 0);
        due("supper", x.count(5), 2);
        due("fever", x.sleeper(0, 3), 1);
        due("memory", x.memory(1, 1), 9);
        due("law", x.forgets(0, 0), 2);
        due("kind", x.kind(1), 3);
        due("no act", x.count(6), 0);
        due("no act", x.undo(), STATE);
        due("the other", x.restore(1), 1);
        due("year", x.count(3), 3);
        x.tell(0, 0);
        due("again", x.restore(1), 1);
        due("as it was kept", x.memory(0, 0), 0);
        due("kept anew", x.image(0), 1);
        x.restore(0);
        due("in place of the one before", x.count(3), 3);
    }

    // 33, 34
    private static void kindsAndAs() {
        DreamGraves none = new DreamGraves();
        due("no yard", none.kind(0), BAD);
        due("no yard", none.as(0, 0), BAD);
        DreamGraves x = told(ALL_KINDS);
        int[] isOf = {0, 0b000011, 0b000111, 0b001011, 0b010001, 0b110001};
        for (int one = 0; one < 5; one++) {
            int kind = one + 1;
            due("kind", x.kind(one), kind);
            for (int as = 0; as <= 5; as++) {
                boolean is = (isOf[kind] >> as & 1) != 0;
                due("as " + kind + " " + as, x.as(one, as), is ? one : KIND);
                due("status", x.status(), is ? 0 : 3);
            }
        }
        due("no sleeper", x.kind(5), BAD);
        due("no sleeper", x.kind(-1), BAD);
        due("no sleeper", x.as(5, 0), BAD);
        due("no kind", x.as(0, 6), BAD);
        due("no kind", x.as(0, -1), BAD);
    }

    private static void asked(DreamGraves x, int one, int what, int answer, int... trace) {
        due("ask " + one + " " + what, x.ask(one, what), answer);
        for (int i = 0; i < trace.length; i++) {
            due("trace of " + one + " " + what, x.trace(i), trace[i]);
        }
        due("trace ends", x.trace(trace.length), NONE);
    }

    // 35, 36
    private static void asks() {
        due("no yard", new DreamGraves().ask(0, 0), BAD);
        DreamGraves x = told(ALL_KINDS);
        asked(x, 0, 0, 40 + 9, 11, 10, 21, 20);
        asked(x, 0, 1, 9, 21, 20);
        asked(x, 1, 0, -(24 + 14), 12, 11, 10, 24, 21, 20);
        asked(x, 1, 1, 14, 24, 21, 20);
        asked(x, 2, 0, 24 + 2 - 1000, 11, 10, 22, 21, 20);
        asked(x, 2, 1, 2 - 1000, 22, 21, 20);
        asked(x, 3, 0, -100, 13, 10);
        asked(x, 3, 1, 103, 23, 20, 13, 10);
        asked(x, 4, 0, -140, 14, 13, 10);
        asked(x, 4, 1, 144, 23, 20, 14, 13, 10);
        due("what below", x.ask(0, -1), BAD);
        due("what above", x.ask(0, 2), BAD);
        due("no sleeper", x.ask(5, 0), BAD);
        due("no sleeper", x.ask(-1, 0), BAD);
        due("the trace stays", x.trace(0), 23);
        due("trace below", x.trace(-1), NONE);
        due("trace above", x.trace(16), NONE);
        due("trace far", x.trace(Integer.MAX_VALUE), NONE);
    }

    // 37
    private static void counts() {
        DreamGraves x = told(TWO);
        x.row(0, 0, 0);
        x.row(5, 2, 3);
        x.years(1);
        x.supper(1);
        x.feed(0);
        int[] due = {2, 2, 2, 1, 1, 2, 2, 1};
        for (int what = 0; what < due.length; what++) {
            due("count " + what, x.count(what), due[what]);
        }
        due("below", x.count(-1), BAD);
        due("above", x.count(8), BAD);
    }

    // 38
    private static void statuses() {
        DreamGraves x = told(TWO);
        x.set(0, 0, 0);
        due("NULL", x.status(), 1);
        x.row(0, 9, 9);
        due("BAD leaves it", x.status(), 1);
        x.row(0, 0, -1);
        due("SIZE", x.status(), 4);
        x.row(0, 0, 3);
        due("none", x.status(), 0);
        x.set(0, 3, 0);
        due("PLACE", x.status(), 2);
        x.sleeper(0, 0);
        x.years(1);
        x.undo();
        due("calls without rows leave it", x.status(), 2);
        x.set(0, 2, 0);
        due("none", x.status(), 0);
        x.row(1, 1, 3);
        x.copy(0, 0, 1, 0, 1);
        due("STORE", x.status(), 5);
        x.copy(0, 0, 0, 1, 1);
        due("none", x.status(), 0);
        x.as(0, 2);
        due("KIND", x.status(), 3);
        x.as(0, 6);
        due("BAD leaves it", x.status(), 3);
        x.as(0, 1);
        due("none", x.status(), 0);
        x.drop(7);
        due("NULL", x.status(), 1);
        x.drop(1);
        due("none", x.status(), 0);
        x.who(0, 1, 0, 1);
        due("NULL", x.status(), 1);
        x.who(0, 0, 0, 1);
        due("none", x.status(), 0);
        x.whispered(0, 0, 3, 1);
        due("PLACE", x.status(), 2);
        x.whispered(0, 0, 0, 7);
        due("BAD leaves it", x.status(), 2);
        x.whispered(0, 0, 0, 1);
        due("none", x.status(), 0);
        DreamGraves none = new DreamGraves();
        none.drop(0);
        none.whispered(0, 0, 0, 1);
        due("STATE leaves it", none.status(), 1);
    }

    private PromiseTest() {
    }
}
