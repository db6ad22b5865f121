/** The edges that the document names of TEXTS (promises 6 to 8), each sentence by itself. */
final class EdgeTextTest {
    private static final int BAD = DreamGraves.BAD, STATE = DreamGraves.STATE, FULL = DreamGraves.FULL;

    public static void main(String[] args) {
        tapeAtMost();
        theLongestYard();
        everyByteAtEveryPlace();
        numbersOfLaw();
        memories();
        runsOfFigures();
        asManyAsGraves();
        sleepersAtMost();
        ends();
        theFirstAndTheLeast();
        inPlaceOfTheOneBefore();
        allStays();
        latestFault();
        Dues.end();
    }

    private static void due(String what, long got, long want) {
        Dues.due(what, got, want);
    }

    private static void faultAt(String text, int place, int number) {
        Dues.faultAt(text, place, number);
    }

    private static void reads(String text, int sleepers) {
        due("yard() of " + text, Dues.fed(new DreamGraves(), text).yard(), sleepers);
    }

    /** "THE TAPE has at most 120 bytes, that come one by one"; "A byte (0 to 255)". */
    private static void tapeAtMost() {
        DreamGraves x = new DreamGraves();
        for (int i = 0; i < 120; i++) {
            due("feed", x.feed(i == 0 ? 0 : i == 1 ? 255 : i), i + 1);
        }
        due("the 121st", x.feed(1), FULL);
        due("no byte", x.feed(-1), BAD);
        due("no byte", x.feed(256), BAD);
        due("120", x.count(7), 120);
        x.yard();
        due("room again", x.feed(255), 1);
        due("no byte of an empty tape", x.feed(-1), BAD);
        due("no byte of an empty tape", x.feed(256), BAD);
    }

    /** The longest yard has 105 bytes; what stands behind it cannot. */
    private static void theLongestYard() {
        StringBuilder text = new StringBuilder("g06,09,09;");
        for (int s = 0; s < 5; s++) {
            text.append("t27,26,25,24,23,22;");
        }
        due("105 bytes", text.length(), 105);
        reads(text.toString(), 5);
        DreamGraves x = Dues.told(text.toString());
        due("the last memory", x.memory(4, 5), 22);
        due("all memory", x.drawn(0, 1, 1), 5 * 147);
        faultAt(text + "t27,26,25,24,23", 105, 3);
        faultAt(text + " ".repeat(15), 105, 1);
        faultAt(text + ";", 105, 1);
    }

    /** "TOKENS: letters a to z, NUMBERS, SIGNS , and ; nothing else". */
    private static void everyByteAtEveryPlace() {
        for (int b = 0; b < 256; b++) {
            char sign = (char) b;
            boolean isFigure = b >= '0' && b <= '9';
            if (b != 'g') {
                faultAt(sign + "1,1,2;d0;", 0, 1);
            }
            if (!isFigure) {
                faultAt("g" + sign + ",1,2;d0;", 1, 1);
                faultAt("g1,1,2;d" + sign + ";", 8, 1);
                faultAt("g1,1,2;d0;" + (("dtwsm".indexOf(b) < 0) ? sign + "0;" : "g0;"), 10, 1);
                if (b != ',') {
                    faultAt("g1" + sign + "1,2;d0;", 2, 1);
                    faultAt("g2,1,2;d0" + sign + "0;", 9, 1);
                }
                if (b != ';') {
                    faultAt("g1,1,2" + sign + "d0;", 6, 1);
                    faultAt("g1,1,2;d0" + sign, 9, 1);
                }
            }
        }
    }

    /** "law: g GRAVES , LEAST , SHARE ; (1 to 6; 1 to 9; 2 to 9)". */
    private static void numbersOfLaw() {
        for (int v = 0; v <= 99; v++) {
            String[] figures = v < 10 ? new String[] {"" + v, "0" + v} : new String[] {"" + v};
            for (String f : figures) {
                String graves = "g" + f + ",1,2;d" + "0,".repeat(Math.max(0, v - 1) % 6) + "0;";
                String least = "g1," + f + ",2;d0;";
                String share = "g1,1," + f + ";d0;";
                numberIsDue(graves, 1, v >= 1 && v <= 6);
                numberIsDue(least, 3, v >= 1 && v <= 9);
                numberIsDue(share, 5, v >= 2 && v <= 9);
            }
        }
    }

    private static void numberIsDue(String text, int place, boolean asTold) {
        if (asTold) {
            reads(text, 1);
        } else {
            faultAt(text, place, 2);
        }
    }

    /** "MEMORY of GRAVES 0, 1, ..: 0 to 27 each". */
    private static void memories() {
        for (int v = 0; v <= 99; v++) {
            numberIsDue("g1,1,2;d" + v + ";", 8, v <= 27);
            numberIsDue("g2,1,2;d27," + v + ";", 11, v <= 27);
            if (v < 10) {
                numberIsDue("g1,1,2;d0" + v + ";", 8, true);
            }
            if (v <= 27) {
                due("memory", Dues.told("g2,1,2;d27," + v + ";").memory(0, 1), v);
            }
        }
    }

    /** "NUMBERS (figures, 2 at most)"; "a run of three figures, at its first". */
    private static void runsOfFigures() {
        String[] runs = {"000", "001", "002", "100", "999", "0000", "1111111"};
        for (String run : runs) {
            faultAt(run, 0, 1);
            faultAt("g" + run + ",1,2;d0;", 1, 1);
            faultAt("g1," + run + ",2;d0;", 3, 1);
            faultAt("g1,1," + run + ";d0;", 5, 1);
            faultAt("g1,1,2;" + run + ";", 7, 1);
            faultAt("g1,1,2;d" + run + ";", 8, 1);
            faultAt("g2,1,2;d0," + run + ";", 10, 1);
            faultAt("g1,1,2;d0;" + run, 10, 1);
            faultAt("g1,1,2;d" + run, 8, 1);
        }
        faultAt("g1,1,2;d" + "0".repeat(112), 8, 1);
        faultAt("g1,1,2;d0;00", 10, 1);
        faultAt("g1,1,2;00;", 7, 1);
    }

    /** "SORT and as many NUMBERS as GRAVES, parted by , then ;". */
    private static void asManyAsGraves() {
        for (int graves = 1; graves <= 6; graves++) {
            String law = "g" + graves + ",1,2;";
            String whole = law + "d" + "7,".repeat(graves - 1) + "7";
            reads(whole + ";", 1);
            faultAt(whole + ",7;", whole.length(), 1);
            faultAt(law + "d" + "7,".repeat(graves - 1) + ";", whole.length() - 1, 1);
            if (graves > 1) {
                String less = law + "d" + "7,".repeat(graves - 2) + "7";
                faultAt(less + ";", less.length(), 1);
            }
        }
    }

    /** "SLEEPERS 0 .. 4, 5 at most"; FAULT 3 "a sleeper more than there is room for (its letter)". */
    private static void sleepersAtMost() {
        faultAt("g1,1,2;", 7, 1);
        String text = "g1,1,2;";
        for (int s = 1; s <= 5; s++) {
            text += "dtwsm".charAt(s - 1) + "0;";
            reads(text, s);
        }
        for (char letter = 'a'; letter <= 'z'; letter++) {
            boolean isSort = "dtwsm".indexOf(letter) >= 0;
            faultAt(text + letter, 22, isSort ? 3 : 1);
            faultAt(text + letter + "0;", 22, isSort ? 3 : 1);
            faultAt(text + letter + "99;", 22, isSort ? 3 : 1);
        }
    }

    /** "the end: how many bytes there are": every text that ends too early. */
    private static void ends() {
        String text = "g2,5,4;d9,15;w05,9;";
        for (int n = 0; n <= text.length(); n++) {
            String cut = text.substring(0, n);
            if (n == 13 || n == 19) {
                reads(cut, n == 13 ? 1 : 2);
            } else {
                faultAt(cut, n, 1);
            }
        }
    }

    /** "the first TOKEN that has one, of one TOKEN the least". */
    private static void theFirstAndTheLeast() {
        faultAt("g7,0,1;x28", 1, 2);
        faultAt("g1,0,1;x28", 3, 2);
        faultAt("g1,1,1;x28", 5, 2);
        faultAt("g1,1,2;x28", 7, 1);
        faultAt("g1,1,2;d28;d28;x", 8, 2);
        faultAt("g1,1,2;d0;d0;d0;d0;d28;d0;", 20, 2);
        faultAt("g1,1,2;d0;d0;d0;d0;d0,d0;", 21, 1);
        faultAt("g1,1,2;99;", 7, 1);
        faultAt("g1,1,2;d0;99", 10, 1);
        faultAt("99", 0, 1);
        faultAt("g1,1,2;d0;d0;d0;d0;d0;99", 22, 1);
    }

    /** "A YARD that is read stands in place of the one before: YEAR 0, all GRAVES are KEPT; nobody has a SUPPER, a fever". */
    private static void inPlaceOfTheOneBefore() {
        DreamGraves x = Dues.told("g6,9,9;d27,27,27,27,27,27;t27,27,27,27,27,27;m27,0,0,0,0,0;");
        x.years(2);
        x.supper(0);
        x.supper(2);
        x.fever(0);
        x.fever(1);
        Dues.fed(x, "g2,1,2;w1,2;s0,0;");
        due("read", x.yard(), 2);
        int[] counts = {0, 2, 2, 0, 3, 0, 0, 0};
        for (int what = 0; what < 8; what++) {
            due("count " + what, x.count(what), counts[what]);
        }
        due("no fever", x.sleeper(0, 3), 0);
        due("no fever", x.sleeper(1, 3), 0);
        due("no third sleeper", x.kind(2), BAD);
        due("no third grave", x.memory(0, 2), BAD);
        due("no third grave", x.grave(2, 0), BAD);
        due("all memory", x.sleeper(0, 1), 3);
        due("all memory", x.drawn(0, 1, 1), 3);
        due("kind", x.kind(0), 3);
        due("no act", x.undo(), STATE);
        x.years(1);
        due("SHARE", x.memory(0, 1), 0);
        Dues.fed(x, "g4,1,2;d0,0,0,9;");
        due("more graves again", x.yard(), 1);
        due("nothing is left of older memory", x.sleeper(0, 1), 9);
        due("all are kept", x.count(4), 15);
    }

    /** "-1000100 less the place of a FAULT: all stays", but the tape, "empty then". */
    private static void allStays() {
        DreamGraves x = stayed();
        Dues.fed(x, "g1,1,2;d27;d27;d27;d27;d27;d");
        due("fault", x.yard(), -1000100 - 27);
        due("number", x.fault(), 3);
        due("the tape is empty", x.count(7), 0);
        DreamGraves twin = stayed();
        Dues.fed(twin, "g9");
        twin.yard();
        // The portrait's own fault makes both objects' latest one alike but for the first note of it.
        Dues.holds("all stays", Portrait.of(x).replaceFirst("fault=3", "fault=2").equals(Portrait.of(twin)));
    }

    private static DreamGraves stayed() {
        DreamGraves x = Dues.told("g3,5,4;d9,5,0;w5,9,0;s0,0,0;m27,3,0;");
        x.image(1);
        x.years(1);
        x.supper(2);
        x.fever(3);
        x.ask(1, 0);
        x.row(3, 0, 2);
        return x;
    }

    /** "The number of the latest FAULT; 0 before one". */
    private static void latestFault() {
        DreamGraves x = new DreamGraves();
        due("before one", x.fault(), 0);
        Dues.fed(x, "g1,1,2;d0;");
        x.yard();
        due("a yard is no fault", x.fault(), 0);
        String[] texts = {"g1,1,2;d28;", "g1,1,2;d0;d0;d0;d0;d0;d", "", "g1,1,2;d0;"};
        int[] numbers = {2, 3, 1, 1};
        for (int k = 0; k < texts.length; k++) {
            Dues.fed(x, texts[k]);
            x.yard();
            due("the latest", x.fault(), numbers[k]);
        }
    }

    private EdgeTextTest() {
    }
}
