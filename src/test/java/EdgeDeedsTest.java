/** The edges that the document names of dreams, YEARS and ACTS (promises 9 to 17), each sentence by itself. */
final class EdgeDeedsTest {
    private static final int BAD = DreamGraves.BAD, STATE = DreamGraves.STATE, FULL = DreamGraves.FULL;

    public static void main(String[] args) {
        ifThatIsLeastOrMore();
        ofSeveralTheFirst();
        ofKeptAlone();
        nextBehindByGraves();
        yearByGraves();
        anyMemory();
        aShareLess();
        dugHasNoMemory();
        suppersAndFeversAreOver();
        actsAtMost();
        actsBehindUndone();
        noneUndone();
        yearsAtMost();
        yearAbove999();
        suppersForAll();
        tales();
        burials();
        Dues.end();
    }

    private static void due(String what, long got, long want) {
        Dues.due(what, got, want);
    }

    private static int dreams(String text) {
        return Dues.told(text).sleeper(0, 0);
    }

    /** "most MEMORY, if that is LEAST or more"; "most of all others, if that is LEAST or more, too". */
    private static void ifThatIsLeastOrMore() {
        for (int least = 1; least <= 9; least++) {
            String law = "g3," + least + ",2;";
            int less = least - 1;
            due("dreamer of LEAST", dreams(law + "d0," + least + ",0;"), 2);
            due("dreamer of less", dreams(law + "d0," + less + ",0;"), 0);
            due("both of LEAST", dreams(law + "t0," + least + "," + least + ";"), 6);
            due("one of LEAST", dreams(law + "t0," + least + "," + less + ";"), 2);
            due("none of LEAST", dreams(law + "t" + less + "," + less + "," + less + ";"), 0);
            due("wrong face of LEAST", dreams(law + "w0," + least + ",0;"), 4);
            due("wrong face of less", dreams(law + "w0," + less + ",0;"), 0);
            due("wife of none", dreams(law + "s" + less + ",0,0;"), 1);
            due("girl of none", dreams(law + "m" + less + ",0,0;"), 1);
        }
    }

    /** "of several the first". */
    private static void ofSeveralTheFirst() {
        due("dreamer", dreams("g6,1,2;d0,5,9,9,9,9;"), 4);
        due("dreamer of all alike", dreams("g6,1,2;d9,9,9,9,9,9;"), 1);
        due("dreamer of the last", dreams("g6,1,2;d9,9,9,9,9,10;"), 32);
        due("two of all alike", dreams("g6,1,2;t9,9,9,9,9,9;"), 3);
        due("two, the second of several", dreams("g6,1,2;t5,5,5,9,5,5;"), 9);
        due("two, the first of several", dreams("g6,1,2;t5,5,9,9,9,5;"), 12);
        due("two of one grave", dreams("g1,1,2;t9;"), 1);
        due("wrong face behind the first", dreams("g6,1,2;w5,5,9,9,9,5;"), 8);
    }

    /** "of GRAVES that are KEPT alone"; a wrong face's "KEPT or not". */
    private static void ofKeptAlone() {
        DreamGraves x = Dues.told("g3,1,9;d9,0,0;w9,0,0;d0,0,0;");
        due("grave 2 is dug", x.years(1), 3);
        due("the wrong face's", x.sleeper(1, 0), 2);
        x.tell(1, 1);
        due("behind grave 1 is a dug one", x.sleeper(1, 0), 4);
        due("it is dreamt of", x.grave(2, 1), 2);
        due("it is not kept", x.grave(2, 0), 0);
        due("it is not kept by that", x.years(1), 1);
        due("grave 1 is dug, its memory gone", x.memory(1, 1), 0);
        due("the next best is left", x.sleeper(1, 0), 2);
        due("two others lie dug", Dues.told("g2,9,2;t9,8;").years(1), 1);
    }

    /** "the next GRAVE behind (by GRAVES left over)". */
    private static void nextBehindByGraves() {
        for (int graves = 1; graves <= 6; graves++) {
            for (int most = 0; most < graves; most++) {
                StringBuilder text = new StringBuilder("g" + graves + ",1,2;w");
                for (int g = 0; g < graves; g++) {
                    text.append(g == 0 ? "" : ",").append(g == most ? 9 : 3);
                }
                due("behind " + most + " of " + graves, dreams(text + ";"), 1 << (most + 1) % graves);
            }
        }
    }

    /** "the GRAVE whose number YEAR leaves by GRAVES; a girl of that, and of GRAVE 0". */
    private static void yearByGraves() {
        for (int graves = 1; graves <= 6; graves++) {
            String memories = "0,".repeat(graves - 1) + "0;";
            DreamGraves x = Dues.told("g" + graves + ",9,2;s" + memories + "m" + memories);
            for (int year = 0; year < 14; year++) {
                int grave = year % graves;
                due("wife in " + year, x.sleeper(0, 0), 1 << grave);
                due("girl in " + year, x.sleeper(1, 0), 1 << grave | 1);
                due("who dreams of it", x.grave(grave, 1), 3);
                due("grave 0 stays kept, no other does", x.years(1), 1);
            }
        }
    }

    /** "DREAMS of all GRAVES that are KEPT, and of which it has any MEMORY, besides". */
    private static void anyMemory() {
        DreamGraves x = Dues.told("g4,9,9;d1,0,2,1;w9,0,0,1;s0,0,0,0;");
        due("of 1 and 2, not of 0", x.fever(0), 13);
        due("besides its own", x.fever(1), 11);
        due("of none but its own", x.fever(2), 1);
        due("all are kept", x.years(1), 15);
        due("what is left of 1", x.memory(0, 0), 0);
        due("what is left of 2", x.memory(0, 2), 1);
        due("over", x.sleeper(0, 0), 0);
        due("the wife's year, the wrong face's nothing", x.years(1), 2);
        due("of dug graves it has none", x.fever(1), 0);
        DreamGraves y = Dues.told("g2,1,2;t9,9;");
        due("what it dreams of anyway", y.fever(0), 3);
    }

    /** "its MEMORY by SHARE, cut, and 1 more, if it has any". */
    private static void aShareLess() {
        for (int share = 2; share <= 9; share++) {
            for (int memory = 0; memory <= 27; memory++) {
                DreamGraves x = Dues.told("g1,1," + share + ";m" + memory + ";m" + memory + ";");
                x.supper(1);
                x.years(1);
                due("a share of " + memory, x.memory(0, 0), memory == 0 ? 0 : memory - (memory / share + 1));
                due("with a supper", x.memory(1, 0), memory);
            }
        }
    }

    /** "is DUG: nobody has MEMORY of it any more", with a SUPPER or without. */
    private static void dugHasNoMemory() {
        DreamGraves x = Dues.told("g2,9,2;d8,8;t8,8;s27,27;");
        x.supper(0);
        x.supper(1);
        x.supper(2);
        due("the wife's first year", x.years(1), 1);
        for (int s = 0; s < 3; s++) {
            due("of the dug one", x.memory(s, 1), 0);
        }
        due("of the other", x.memory(2, 0), 27);
        due("the wife's second year: none is kept", x.years(1), 0);
        due("of none", x.sleeper(2, 1), 0);
        due("none stays none", x.years(24), 0);
    }

    /** "SUPPERS, fevers are over. YEAR is 1 more". */
    private static void suppersAndFeversAreOver() {
        DreamGraves x = Dues.told("g1,1,2;m27;m27;");
        x.supper(0);
        x.fever(1);
        due("two years, a supper in the first alone", x.years(2), 1);
        due("27, 13", x.memory(0, 0), 13);
        due("27, 13, 6", x.memory(1, 0), 6);
        due("no supper", x.count(5), 0);
        due("no supper", x.sleeper(0, 2), 0);
        due("no fever", x.sleeper(1, 3), 0);
        due("year", x.count(3), 2);
        due("a supper again", x.supper(0), 1);
        due("a fever again", x.fever(1), 1);
    }

    /** "ACTS (24 at most are kept, of more the oldest is forgotten; each can be undone, the latest first)". */
    private static void actsAtMost() {
        for (int acts = 1; acts <= 60; acts++) {
            DreamGraves x = Dues.told("g1,1,2;m9;");
            for (int year = 0; year < acts; year++) {
                x.years(1);
            }
            int kept = Math.min(24, acts);
            due("acts", x.count(6), kept);
            for (int left = kept - 1; left >= 0; left--) {
                due("undo", x.undo(), left);
                due("the latest first", x.count(3), acts - kept + left);
                due("acts", x.count(6), left);
            }
            due("none", x.undo(), STATE);
            due("as it was", x.count(3), acts - kept);
        }
    }

    /** Acts of all sorts, behind some that were undone, in a past that is full. */
    private static void actsBehindUndone() {
        DreamGraves x = Dues.told("g2,5,4;d9,5;w5,9;");
        x.years(23);
        x.bury(1, 0);
        due("24", x.count(6), 24);
        due("the 25th", x.supper(1), 1);
        due("24", x.count(6), 24);
        due("undone", x.undo(), 23);
        due("no supper", x.count(5), 0);
        due("another", x.fever(0), 2);
        due("24", x.count(6), 24);
        due("the 26th", x.tell(1, 1), 0);
        due("24", x.count(6), 24);
        due("the tale", x.undo(), 23);
        due("memory", x.memory(1, 1), 0);
        due("the fever", x.undo(), 22);
        due("no fever", x.sleeper(0, 3), 0);
        due("the burial", x.undo(), 21);
        due("dug", x.count(4), 0);
        for (int left = 20; left >= 0; left--) {
            due("a year", x.undo(), left);
        }
        due("the oldest two are forgotten", x.count(3), 2);
        due("none", x.undo(), STATE);
    }

    /** "STATE: none": at first, of a new YARD, behind restore, when all are undone. */
    private static void noneUndone() {
        DreamGraves x = new DreamGraves();
        due("at first", x.undo(), STATE);
        Dues.fed(x, "g1,1,2;m9;");
        x.yard();
        due("of a new yard", x.undo(), STATE);
        x.image(0);
        due("an image is no act", x.undo(), STATE);
        x.years(24);
        for (int i = 0; i < 24; i++) {
            x.undo();
        }
        due("all undone", x.undo(), STATE);
        due("as at first", x.memory(0, 0), 9);
        x.supper(0);
        x.restore(0);
        due("behind restore", x.undo(), STATE);
        due("as the image", x.count(5), 0);
    }

    /** "n YEARS (1 to 24), an ACT each". */
    private static void yearsAtMost() {
        DreamGraves x = Dues.told("g1,1,2;m27;");
        int[] wrong = {0, -1, 25, Integer.MIN_VALUE, Integer.MAX_VALUE, -24};
        for (int n : wrong) {
            due("years " + n, x.years(n), BAD);
        }
        due("no act", x.count(6), 0);
        due("the least", x.years(1), 1);
        due("an act", x.count(6), 1);
        due("the most", x.years(24), 1);
        due("acts", x.count(6), 24);
        due("year", x.count(3), 25);
    }

    /** "FULL: YEAR would be above 999". */
    private static void yearAbove999() {
        DreamGraves x = Dues.told("g2,1,2;s0,0;");
        for (int i = 0; i < 40; i++) {
            x.years(24);
        }
        x.years(15);
        due("975", x.count(3), 975);
        due("999", x.years(24), 0);
        due("999", x.count(3), 999);
        due("1000", x.years(1), FULL);
        due("1023", x.years(24), FULL);
        due("BAD ahead of FULL", x.years(0), BAD);
        due("BAD ahead of FULL", x.years(25), BAD);
        due("acts", x.count(6), 24);
        due("the wife's", x.sleeper(0, 0), 2);
        x.undo();
        due("998 and 2", x.years(2), FULL);
        due("998", x.count(3), 998);
        due("998 and 1", x.years(1), 0);
        due("999 again", x.count(3), 999);
        due("other acts go on", x.bury(1, 0), 2);
        due("other acts go on", x.supper(0), 1);
    }

    /** "A SUPPER: how many have one. STATE: it has one"; so of fevers. */
    private static void suppersForAll() {
        DreamGraves x = Dues.told("g1,1,2;m0;m0;m0;m0;m0;");
        for (int s = 4; s >= 0; s--) {
            due("supper", x.supper(s), 5 - s);
            due("it has one", x.supper(s), STATE);
            due("fever", x.fever(s), 1);
            due("it has one", x.fever(s), STATE);
        }
        due("who", x.count(5), 31);
        due("whether it has a supper", x.sleeper(4, 2), 1);
        due("whether it has a fever", x.sleeper(4, 3), 1);
        due("ten acts", x.count(6), 10);
        x.undo();
        due("a fever again", x.fever(0), 1);
        x.undo();
        x.undo();
        due("whether it has a supper", x.sleeper(0, 2), 0);
        due("whether it has a fever", x.sleeper(0, 3), 0);
        due("a supper again", x.supper(0), 5);
        DreamGraves one = Dues.told("g1,1,2;m0;");
        due("there is no second", one.supper(1), BAD);
        due("there is no second", one.fever(1), BAD);
    }

    /** "A tale of a GRAVE: MEMORY as it was. STATE: the GRAVE is DUG". */
    private static void tales() {
        DreamGraves x = Dues.told("g2,9,2;d0,27;s1,0;");
        due("of none", x.tell(0, 0), 0);
        due("of 27", x.tell(0, 0), 27);
        due("of the last", x.tell(1, 1), 0);
        due("other memory stays", x.memory(1, 0), 1);
        due("an act each", x.count(6), 3);
        due("told of two, the first", x.sleeper(0, 0), 1);
        due("dug", x.years(1), 1);
        due("STATE", x.tell(0, 1), STATE);
        due("STATE", x.tell(1, 1), STATE);
        due("no memory", x.memory(1, 1), 0);
    }

    /** "A burial: GRAVES that are KEPT (bits). STATE: the GRAVE is not DUG". */
    private static void burials() {
        DreamGraves x = Dues.told("g6,9,2;d0,0,0,0,0,0;t0,0,0,0,0,0;");
        for (int g = 0; g < 6; g++) {
            due("not dug", x.bury(g, 0), STATE);
            due("whether it is kept", x.grave(g, 0), 1);
        }
        due("all are dug", x.years(1), 0);
        for (int g = 5; g >= 0; g--) {
            due("burial", x.bury(g, g % 2), 63 & -1 << g);
            due("not dug", x.bury(g, g % 2), STATE);
            due("memory", x.memory(g % 2, g), 27);
            due("of the other", x.memory(1 - g % 2, g), 0);
        }
        due("of the first, and of the first two", x.years(1), 1 | 2 | 8);
        DreamGraves told = Dues.told("g1,9,2;d0;");
        told.years(1);
        due("a tale of a dug one", told.tell(0, 0), STATE);
        told.bury(0, 0);
        due("a tale of a buried one", told.tell(0, 0), 27);
    }

    private EdgeDeedsTest() {
    }
}
