import java.math.BigInteger;

/** The edges that the document names of what is FORETOLD (promises 18 to 32), each sentence by itself. */
final class EdgeForetoldTest {
    private static final int NONE = DreamGraves.NONE, BAD = DreamGraves.BAD, STATE = DreamGraves.STATE;
    private static final int PLACE = -1000012;
    private static final String TWO = "g2,5,4;d9,5;w5,9;";

    public static void main(String[] args) {
        aheadByYears();
        foretoldBeyond999();
        feversInThisYear();
        dugBehindYears();
        dugFirst();
        suppersOfYears();
        suppersInTheFirstWay();
        suppersToldAlready();
        bounds();
        forgets();
        mostOf();
        pairs();
        whoByYears();
        whisperedByYears();
        cheeseByLeast();
        cheeseByYears();
        awakeByCases();
        awakeOfDug();
        drawnByYears();
        drawnBySeeds();
        images();
        Dues.end();
    }

    private static void due(String what, long got, long want) {
        Dues.due(what, got, want);
    }

    /** "AHEAD by n YEARS (0 to 40)". */
    private static void aheadByYears() {
        DreamGraves x = Dues.told("g1,1,9;d27;");
        // 27 23 20 17 15 13 11 9 7 6 5 4 3 2 1, then 0: fifteen years are dreamt, the sixteenth digs
        due("now", x.ahead(0), 1);
        due("15", x.ahead(15), 1);
        due("16", x.ahead(16), 0);
        due("40", x.ahead(40), 0);
        due("41", x.ahead(41), BAD);
        due("-1", x.ahead(-1), BAD);
        due("dug", x.dug(0), 16);
        due("first", x.firstDug(), 0);
        due("as it goes", x.years(15), 1);
        due("as it goes", x.years(1), 0);
        due("none is kept", x.ahead(0), 0);
        due("none is kept", x.ahead(40), 0);
    }

    /** What is foretold has no last YEAR. */
    private static void foretoldBeyond999() {
        DreamGraves x = Dues.told("g2,1,2;s0,0;m0,0;");
        for (int i = 0; i < 41; i++) {
            x.years(24);
        }
        x.years(15);
        due("999", x.count(3), 999);
        due("buried", x.bury(1, 0), 3);
        due("999 leaves 1 by 2", x.ahead(1), 3);
        due("1000 leaves 0", x.ahead(2), 1);
        due("1039", x.ahead(40), 1);
        due("dug in 1000", x.dug(1), 2);
        due("first", x.firstDug(), 1);
        due("with suppers", x.bound(1), 2);
        due("drawn", x.drawn(40, 1, 0), 1);
        due("no supper is of use", x.suppers(2, 2, -1), NONE);
        due("in 999", x.suppers(2, 1, -1), 0);
        due("the year stays", x.count(3), 999);
    }

    /** "SUPPERS, fevers as they are in this YEAR, none later". */
    private static void feversInThisYear() {
        DreamGraves x = Dues.told("g2,5,4;w0,5;");
        due("dug in this year", x.dug(1), 1);
        due("one supper for nothing", x.cheese(2), 1);
        due("no supper helps", x.suppers(2, 1, -1), NONE);
        x.fever(0);
        due("in this year", x.ahead(1), 3);
        due("in the next there is none, nor enough memory", x.ahead(2), 0);
        due("in the next there is none", x.bound(1), 2);
        due("kept by it, fed again", x.cheese(2), 2);
        due("none is needed", x.suppers(2, 1, -1), 0);
        due("no supper helps in the next", x.suppers(2, 2, -1), NONE);
        x.row(0, 0, 2);
        x.set(0, 0, 3);
        x.set(0, 1, 1);
        due("a dreamer's fever is of grave 1 alone", x.who(0, 0, 0, 1), 56);
        due("by a whisper, too", x.whispered(1, 0, 0, 2), 1);
        due("it stays", x.sleeper(0, 3), 1);
    }

    /** "DUG: behind how many YEARS (40 at most) a GRAVE is DUG (0: it is); NONE". */
    private static void dugBehindYears() {
        DreamGraves x = Dues.told("g3,5,4;d9,0,5;m0,0,0;d0,0,5;");
        due("never", x.dug(0), NONE);
        due("in this one", x.dug(1), 1);
        due("5, then 3", x.dug(2), 2);
        x.supper(2);
        due("5, 5, then the girl's year", x.dug(2), 4);
        x.years(1);
        due("it is", x.dug(1), 0);
        due("a year less", x.dug(2), 3);
        due("no such grave", x.dug(3), BAD);
    }

    /** "FIRST: the GRAVE that is KEPT now and DUG first, of several the first; NONE: none in 40". */
    private static void dugFirst() {
        DreamGraves x = Dues.told("g6,1,9;d0,0,0,9,0,0;t0,9,9,0,0,0;m0,0,0,0,0,0;");
        due("two in this year", x.firstDug(), 4);
        x.years(1);
        // 9 7 6 5 4 3 2 1: all three at once
        due("of several the first", x.firstDug(), 1);
        x.supper(1);
        due("one has a supper", x.firstDug(), 3);
        x.years(9);
        due("none but the girl's", x.count(4), 1);
        due("none in 40", x.firstDug(), NONE);
        DreamGraves none = Dues.told("g1,9,2;d0;");
        due("the only one", none.firstDug(), 0);
        none.years(1);
        due("none is kept", none.firstDug(), NONE);
    }

    /** "n YEARS (1 to 3)"; "NONE: also from n on"; "BAD: GRAVES, n, j below -1". */
    private static void suppersOfYears() {
        DreamGraves x = Dues.told("g1,1,2;s0;");
        for (int n = 1; n <= 3; n++) {
            due("none is needed", x.suppers(1, n, -1), 0);
            for (int j = 0; j < n; j++) {
                due("nobody", x.suppers(1, n, j), 0);
            }
            due("from n on", x.suppers(1, n, n), NONE);
            due("from n on", x.suppers(1, n, n + 1), NONE);
            due("from n on", x.suppers(1, n, Integer.MAX_VALUE), NONE);
            due("below -1", x.suppers(1, n, -2), BAD);
            due("below -1", x.suppers(1, n, Integer.MIN_VALUE), BAD);
            due("no such grave", x.suppers(2, n, -1), BAD);
            due("no such graves", x.suppers(-1, n, -1), BAD);
            due("no graves", x.suppers(0, n, -1), 0);
        }
        due("0 years", x.suppers(1, 0, -1), BAD);
        due("4 years", x.suppers(1, 4, -1), BAD);
        DreamGraves six = Dues.told("g6,1,2;t9,9,0,0,0,0;t0,0,9,9,0,0;t0,0,0,0,9,9;");
        due("all six", six.suppers(63, 3, -1), 0);
        due("above", six.suppers(64, 3, -1), BAD);
        six.years(4);
        due("9 4 1 0: all are dug", six.count(4), 0);
        due("of a dug one", six.suppers(1, 1, -1), NONE);
        due("of a dug one, who", six.suppers(32, 3, 0), NONE);
        due("of none", six.suppers(0, 3, -1), 0);
    }

    /** "the first such way (by YEARS, of each the least bits first)". */
    private static void suppersInTheFirstWay() {
        DreamGraves x = Dues.told("g1,5,4;d9;d9;d9;");
        // 9 6 3: one supper for anyone, in this year or the next
        due("one", x.suppers(1, 3, -1), 1);
        due("none in this year", x.suppers(1, 3, 0), 0);
        due("the first in the next", x.suppers(1, 3, 1), 1);
        due("none in the last", x.suppers(1, 3, 2), 0);
        due("two years need none", x.suppers(1, 2, -1), 0);
        DreamGraves y = Dues.told("g1,9,2;d9;d9;");
        // 9 4: one each year, for the same one
        due("two", y.suppers(1, 3, -1), 2);
        due("the first", y.suppers(1, 3, 0), 1);
        due("the first", y.suppers(1, 3, 1), 1);
        due("none in the last", y.suppers(1, 3, 2), 0);
        due("one", y.suppers(1, 2, -1), 1);
        due("none in the last", y.suppers(1, 2, 1), 0);
        due("none", y.suppers(1, 1, -1), 0);
        DreamGraves one = Dues.told("g1,9,2;d9;");
        due("each year one", one.suppers(1, 3, 1), 1);
        due("fewer years leave nothing of more", one.suppers(1, 2, 1), 0);
        due("this year one", one.suppers(1, 2, 0), 1);
        due("fewer years leave nothing of more", one.suppers(1, 1, 0), 0);
        DreamGraves five = Dues.told("g5,9,2;d9,0,0,0,0;d0,9,0,0,0;d0,0,9,0,0;d0,0,0,9,0;d0,0,0,0,9;");
        due("the most", five.suppers(31, 3, -1), 10);
        due("all", five.suppers(31, 3, 0), 31);
        due("all", five.suppers(31, 3, 1), 31);
        due("of the last alone", five.suppers(16, 3, 1), 16);
    }

    /** "those that are told already count as none". */
    private static void suppersToldAlready() {
        DreamGraves x = Dues.told("g2,9,2;d9,0;d0,9;");
        due("four", x.suppers(3, 3, -1), 4);
        x.supper(0);
        due("three more", x.suppers(3, 3, -1), 3);
        due("the other in this year", x.suppers(3, 3, 0), 2);
        due("both in the next", x.suppers(3, 3, 1), 3);
        x.supper(1);
        due("two more", x.suppers(3, 3, -1), 2);
        due("nobody in this year", x.suppers(3, 3, 0), 0);
        due("both in the next", x.suppers(3, 3, 1), 3);
        due("none", x.suppers(3, 2, -1), 0);
        due("they stay", x.count(5), 3);
    }

    /** "BOUND: behind how many YEARS (40 at most) a GRAVE would be DUG, if all had a SUPPER each YEAR; NONE". */
    private static void bounds() {
        DreamGraves x = Dues.told("g3,9,2;d9,0,0;t0,8,8;s0,0,0;");
        due("never", x.bound(0), NONE);
        due("in this year", x.bound(1), 1);
        x.fever(1);
        due("a fever in this year", x.bound(2), 2);
        due("and the wife in the next", x.bound(1), 3);
        due("all have suppers", Dues.told("g2,9,2;d9,0;d0,9;").bound(1), NONE);
        x.years(2);
        due("it is", x.bound(2), 0);
        due("no such grave", x.bound(3), BAD);
        due("no such grave", x.bound(-1), BAD);
    }

    /** "FORGETS: (0: now; 40 at most), had it no SUPPERS (that of this YEAR, too), DUG or not". */
    private static void forgets() {
        for (int least = 1; least <= 9; least++) {
            for (int share = 2; share <= 9; share++) {
                for (int memory = 0; memory <= 27; memory += 3) {
                    DreamGraves x = Dues.told("g2," + least + "," + share + ";s0," + memory + ";");
                    x.supper(0);
                    int years = 0;
                    for (int m = memory; m >= least; m -= m / share + 1) {
                        years++;
                    }
                    due("forgets " + memory, x.forgets(0, 1), years);
                }
            }
        }
        DreamGraves x = Dues.told(TWO);
        x.years(1);
        due("of a dug one now", x.forgets(1, 1), 0);
        due("3 of 5", x.forgets(1, 0), 0);
        due("6, 4", x.forgets(0, 0), 1);
    }

    /** "the GRAVE of which it has most MEMORY, of several the first; how much". */
    private static void mostOf() {
        DreamGraves x = Dues.told("g6,9,2;d0,0,0,0,0,0;d0,0,0,0,0,1;d5,6,6,6,6,6;d27,27,27,27,27,27;");
        int[] graves = {0, 5, 1, 0};
        int[] much = {0, 1, 6, 27};
        for (int s = 0; s < 4; s++) {
            due("most", x.most(s, 0), graves[s]);
            due("how much", x.most(s, 1), much[s]);
        }
        x.years(1);
        due("of graves that are dug none", x.most(2, 0), 0);
        due("what is left", x.most(2, 1), 2);
        due("nothing is left", x.most(1, 0), 0);
        due("nothing is left", x.most(1, 1), 0);
    }

    /** "GRAVES (bits) of which two sleepers both DREAM now. BAD: alike, too". */
    private static void pairs() {
        DreamGraves x = Dues.told("g3,1,2;t9,9,0;t0,9,9;m0,0,0;s0,0,0;d0,0,0;");
        due("pair", x.pair(0, 1), 2);
        due("the other way", x.pair(1, 0), 2);
        due("none", x.pair(1, 2), 0);
        due("of the first", x.pair(2, 0), 1);
        due("who does not dream", x.pair(4, 0), 0);
        for (int s = 0; s < 5; s++) {
            due("alike", x.pair(s, s), BAD);
            due("none above", x.pair(s, 5), BAD);
            due("none below", x.pair(-1, s), BAD);
        }
        x.fever(0);
        x.fever(1);
        due("in fevers", x.pair(0, 1), 2);
        due("alike and none", x.pair(5, 5), BAD);
        DreamGraves y = Dues.told("g2,1,2;s0,0;s0,0;d0,0;");
        y.years(1);
        due("of a dug grave", y.pair(0, 1), 2);
    }

    /** "a row tells GRAVES that are KEPT behind each of n YEARS (1 to 12)": "n ITEMS of a ROW from i on". */
    private static void whoByYears() {
        DreamGraves x = Dues.told("g1,1,9;d27;d27;");
        for (int lane = 0; lane < 3; lane++) {
            x.row(lane, lane, 12);
            for (int i = 0; i < 12; i++) {
                x.set(lane, i, 1);
            }
            due("any kind", x.who(0, lane, 0, 12), 62);
            due("any kind", x.who(1, lane, 11, 1), 62);
            due("beyond the end", x.who(0, lane, 1, 12), PLACE);
            due("beyond the end", x.who(0, lane, 12, 1), PLACE);
            x.set(lane, 11, 0);
            due("none in the twelfth year", x.who(0, lane, 0, 12), 0);
            due("eleven years", x.who(0, lane, 0, 11), 62);
            x.set(lane, 0, 3);
            due("a grave that there is not", x.who(0, lane, 0, 1), 0);
            x.set(lane, 0, -1);
            due("below 0", x.who(0, lane, 0, 1), 0);
        }
        due("13 years", x.who(0, 0, 0, 13), BAD);
        due("0 years", x.who(0, 0, 0, 0), BAD);
        due("years below", x.who(0, 0, 0, -1), BAD);
        due("it stays", x.kind(0), 1);
    }

    /** "WHISPERED: a row tells n (1 to 6) such ones: one of whom alone, having 27 MEMORY of a GRAVE now". */
    private static void whisperedByYears() {
        DreamGraves x = Dues.told("g2,9,2;d0,0;t9,0;w0,0;m0,0;");
        x.row(0, 2, 6);
        for (int i = 0; i < 6; i++) {
            x.set(0, i, 1);
        }
        x.set(0, 0, 3);
        // 27 13 6: the dreamer and the one of two keep grave 1 for two years, the girl in YEAR 1 besides
        due("one year", x.whispered(1, 0, 0, 1), 3);
        due("two years kept", x.whispered(1, 0, 0, 2), 0);
        x.set(0, 1, 3);
        due("two years kept", x.whispered(1, 0, 0, 2), 3);
        due("six years", x.whispered(1, 0, 0, 6), 3);
        due("a wrong face's", x.whispered(0, 0, 0, 2), 4);
        due("beyond the end", x.whispered(1, 0, 1, 6), PLACE);
        due("7 years", x.whispered(1, 0, 0, 7), BAD);
        due("0 years", x.whispered(1, 0, 0, 0), BAD);
        due("no third grave", x.whispered(2, 0, 0, 1), BAD);
        due("the last item: nobody, or anybody but those", x.whispered(1, 0, 5, 1), 12);
        x.years(2);
        due("dug", x.count(4), 1);
        due("of a dug grave it is the same by all", x.whispered(1, 0, 2, 4), 15);
        due("of a dug grave it is not kept again", x.whispered(1, 0, 0, 1), 0);
        due("nothing changes", x.memory(0, 1), 0);
    }

    /** "who would else, behind that YEAR, not have LEAST of any GRAVE that is KEPT ahead (but had it with one)". */
    private static void cheeseByLeast() {
        int[] memories = {0, 4, 5, 6, 7, 27};
        int[] suppers = {0, 0, 1, 1, 0, 0};
        for (int k = 0; k < memories.length; k++) {
            due("of " + memories[k], Dues.told("g1,5,4;m" + memories[k] + ";").cheese(1), suppers[k]);
        }
        due("enough of another", Dues.told("g2,5,4;m6,0;t6,7;").cheese(1), 1);
        due("of a grave that is dug in the year", Dues.told(TWO).cheese(1), 0);
        due("LEAST 1", Dues.told("g1,1,2;m1;").cheese(1), 1);
        due("LEAST 1 of 2", Dues.told("g1,1,2;m2;").cheese(1), 1);
        due("LEAST 1 of 3", Dues.told("g1,1,2;m3;").cheese(1), 0);
    }

    /** "CHEESE for n YEARS (1 to 40)"; "those that are told being put aside". */
    private static void cheeseByYears() {
        DreamGraves x = Dues.told("g1,5,4;m7;");
        due("the first year none", x.cheese(1), 0);
        due("the second one", x.cheese(2), 1);
        due("each year one", x.cheese(40), 39);
        due("41", x.cheese(41), BAD);
        due("0", x.cheese(0), BAD);
        due("below", x.cheese(Integer.MIN_VALUE), BAD);
        x.supper(0);
        due("put aside", x.cheese(2), 1);
        due("put aside", x.cheese(40), 39);
        due("it stays", x.count(5), 1);
        due("the most", Dues.told("g1,5,4;m5;m5;m5;m5;m5;").cheese(40), 200);
        DreamGraves none = Dues.told("g1,5,4;d4;");
        none.years(1);
        due("no grave is kept", none.cheese(40), 0);
    }

    /** "AWAKE by p of 10 (0 to 10): a fraction", "in lowest terms (0 is 0 by 1)". */
    private static void awakeByCases() {
        for (int dreamers = 0; dreamers <= 5; dreamers++) {
            DreamGraves x = Dues.told("g2,1,2;" + "m0,0;".repeat(dreamers) + "d0,0;".repeat(5 - dreamers));
            for (int p = 0; p <= 10; p++) {
                BigInteger all = BigInteger.TEN.pow(dreamers);
                BigInteger kept = all.subtract(BigInteger.valueOf(p).pow(dreamers));
                BigInteger common = all.gcd(kept);
                due("above " + p + " of " + dreamers, x.awake(0, p, 0), kept.divide(common).longValue());
                due("below " + p + " of " + dreamers, x.awake(0, p, 1), all.divide(common).longValue());
                due("nobody dreams of it", x.awake(1, p, 0), 0);
                due("nobody dreams of it", x.awake(1, p, 1), 1);
            }
            due("-1", x.awake(0, -1, 0), BAD);
            due("11", x.awake(0, 11, 0), BAD);
        }
    }

    /** A GRAVE that is DUG is not KEPT, whoever DREAMS of it; fevers count. */
    private static void awakeOfDug() {
        DreamGraves x = Dues.told("g2,9,2;s0,1;m0,0;");
        x.fever(0);
        due("by a fever", x.awake(1, 5, 0), 1);
        due("by a fever", x.awake(1, 5, 1), 2);
        x.undo();
        x.years(1);
        due("dug", x.count(4), 1);
        due("both dream of it", x.grave(1, 1), 3);
        for (int p = 0; p <= 10; p++) {
            due("0", x.awake(1, p, 0), 0);
            due("by 1", x.awake(1, p, 1), 1);
        }
    }

    /** "YEARS of n (0 to 40)": what is told stays in this YEAR. */
    private static void drawnByYears() {
        DreamGraves x = Dues.told("g1,1,2;d9;m27;");
        due("none", x.drawn(0, 999999, 0), 1);
        due("none", x.drawn(0, 999999, 1), 36);
        due("40", x.drawn(40, 1, 0), 1);
        due("41", x.drawn(41, 1, 0), BAD);
        due("-1", x.drawn(-1, 1, 0), BAD);
        // X is 16807, odd: the girl's supper
        due("one", x.drawn(1, 1, 1), 31);
        x.supper(0);
        due("and the one that is told", x.drawn(1, 1, 1), 36);
        // X is 282475249 then, odd, too
        due("in this year alone", x.drawn(2, 1, 1), 31);
        due("nothing changes", x.count(3), 0);
        due("nothing changes", x.count(5), 1);
    }

    /** "a SEED (1 to 999999)"; "the rest of X by 5, if there is one, a fever". */
    private static void drawnBySeeds() {
        DreamGraves x = Dues.told("g1,1,2;d9;m27;");
        due("0", x.drawn(1, 0, 0), BAD);
        due("-1", x.drawn(1, -1, 0), BAD);
        due("1000000", x.drawn(1, 1000000, 0), BAD);
        // X is 1774597664, which wraps around the modulus, and is even: the dreamer's supper
        due("999999", x.drawn(1, 999999, 1), 22);
        // X is 50421: its rest by 3 is 0, by 5 it is 1
        due("a fever of the second", Dues.told("g2,9,2;s0,0;d0,8;").drawn(1, 3, 0), 3);
        due("of the second there is none", Dues.told("g2,9,2;s0,8;").drawn(1, 3, 0), 1);
        // X is 252105: its rest by 3 is 0, by 5 it is 0
        due("a fever of the first", Dues.told("g2,9,2;s0,8;").drawn(1, 15, 0), 3);
        // X is 67228: its rest by 3 is 1
        due("no fever", Dues.told("g2,9,2;s0,8;s0,8;s0,8;s0,8;").drawn(1, 4, 0), 1);
        // X is 201684: its rest by 3 is 0, by 5 it is 4
        due("a fever of the fifth", Dues.told("g2,9,2;s0,0;s0,0;s0,0;s0,0;s0,8;").drawn(1, 12, 0), 3);
        DreamGraves told = Dues.told("g3,9,2;s0,0,8;d0,8,0;");
        due("the drawn fever alone", told.drawn(1, 15, 0), 5);
        told.fever(1);
        due("and the one that is told", told.drawn(1, 15, 0), 7);
        due("of the fifth there is none", Dues.told("g2,9,2;s0,8;s0,8;s0,8;s0,8;").drawn(1, 12, 0), 1);
    }

    /** "An IMAGE (0, 1) is kept of the YARD"; "STATE: none was kept"; "no ACT can be undone then". */
    private static void images() {
        DreamGraves x = new DreamGraves();
        int[] wrong = {-1, 2, Integer.MIN_VALUE, Integer.MAX_VALUE};
        for (int k : wrong) {
            due("BAD ahead of STATE", x.image(k), BAD);
            due("BAD ahead of STATE", x.restore(k), BAD);
        }
        due("no yard", x.image(1), STATE);
        due("none was kept", x.restore(1), STATE);
        Dues.fed(x, TWO);
        x.yard();
        due("none was kept of it", x.restore(0), STATE);
        due("image", x.image(1), 1);
        due("the other was not kept", x.restore(0), STATE);
        x.years(24);
        due("acts", x.count(6), 24);
        due("image", x.image(0), 1);
        due("it is no act", x.count(6), 24);
        due("the first", x.restore(1), 1);
        due("year", x.count(3), 0);
        due("no act", x.count(6), 0);
        due("no act", x.undo(), STATE);
        due("as it was", x.sleeper(0, 1), 14);
        x.tell(1, 0);
        due("undone as ever", x.undo(), 0);
        due("the second", x.restore(0), 1);
        due("year", x.count(3), 24);
        due("dug", x.count(4), 0);
        due("again", x.restore(0), 1);
        due("one for both", x.image(1), 1);
        x.restore(1);
        due("the latest stands", x.count(3), 24);
    }

    private EdgeForetoldTest() {
    }
}
