/** The edges that the document names of ROWS (promises 2 to 5), each sentence by itself. */
final class EdgeRowsTest {
    private static final int NULL = -1000011, PLACE = -1000012, SIZE = -1000014;
    private static final int BYTES = 0, SHORTS = 1, INTS = 2;
    private static final int MIN = Integer.MIN_VALUE, MAX = Integer.MAX_VALUE;
    /** What who() answers of a yard of one grave and a wife, for an item that is 1, 0 or anything else. */
    private static final int ONE = 0b110000, ZERO = 0b001110, OTHER = 0;

    public static void main(String[] args) {
        missingAtFirst();
        inPlaceOfWhatIsThere();
        lowestBits();
        noneOfAnItem();
        asTheyWereAhead();
        toTheirEnds();
        dropped();
        Dues.end();
    }

    private static void due(String what, long got, long want) {
        Dues.due(what, got, want);
    }

    private static DreamGraves wifeAlone() {
        return Dues.told("g1,1,2;s0;");
    }

    private static void items(DreamGraves x, int row, int... want) {
        for (int i = 0; i < want.length; i++) {
            due("item " + i + " of " + row, x.who(0, row, i, 1), want[i]);
        }
        due("behind the end of " + row, x.who(0, row, want.length, 1), PLACE);
    }

    private static void put(DreamGraves x, int row, int... values) {
        for (int i = 0; i < values.length; i++) {
            due("set", x.set(row, i, values[i]), values[i]);
        }
    }

    /** "ROWS 0 .. 7 are missing (at first)". */
    private static void missingAtFirst() {
        DreamGraves x = new DreamGraves();
        for (int row = 0; row < 8; row++) {
            due("set of a missing one", x.set(row, 0, 0), NULL);
            due("drop of a missing one", x.drop(row), NULL);
            due("copy of a missing one to itself", x.copy(row, 0, row, 0, 0), NULL);
        }
        due("none is there", x.count(0), 0);
        for (int row = 0; row < 8; row++) {
            due("a row of none", x.row(row, row % 3, 0), 0);
            due("a row of none is there", x.count(0), row + 1);
        }
    }

    /** "A ROW of a LANE with n ITEMS, in place of what is there: n"; "0 to 40 ITEMS, 0 at first". */
    private static void inPlaceOfWhatIsThere() {
        DreamGraves x = wifeAlone();
        due("the most items", x.row(0, INTS, 40), 40);
        due("the last item", x.set(0, 39, 1), 1);
        due("the last item is there", x.who(0, 0, 39, 1), ONE);
        due("behind it none", x.who(0, 0, 40, 1), PLACE);
        due("laid anew", x.row(0, BYTES, 40), 40);
        due("its items are 0", x.who(0, 0, 39, 1), ZERO);
        due("still one row", x.count(0), 1);
        x.set(0, 0, 1);
        due("smaller", x.row(0, BYTES, 1), 1);
        items(x, 0, ZERO);
        due("larger again", x.row(0, BYTES, 2), 2);
        items(x, 0, ZERO, ZERO);
        x.set(0, 1, 1);
        due("SIZE", x.row(0, BYTES, -1), SIZE);
        items(x, 0, ZERO, ONE);
        due("none", x.row(0, BYTES, 0), 0);
        items(x, 0);
    }

    /** "ITEM i becomes v, its lowest bits, as many as the LANE has: what it is then". */
    private static void lowestBits() {
        DreamGraves x = wifeAlone();
        x.row(0, BYTES, 1);
        x.row(1, SHORTS, 1);
        x.row(2, INTS, 1);
        int[] values = {0, 1, -1, 127, 128, 255, 256, 257, -128, -129, 32767, 32768, 65535, 65536, 65537, -32768, -32769, MIN, MAX};
        int[] bytes = {0, 1, -1, 127, -128, -1, 0, 1, -128, 127, -1, 0, -1, 0, 1, 0, -1, 0, -1};
        int[] shorts = {0, 1, -1, 127, 128, 255, 256, 257, -128, -129, 32767, -32768, -1, 0, 1, -32768, 32767, 0, -1};
        for (int k = 0; k < values.length; k++) {
            due("byte of " + values[k], x.set(0, 0, values[k]), bytes[k]);
            due("short of " + values[k], x.set(1, 0, values[k]), shorts[k]);
            due("int of " + values[k], x.set(2, 0, values[k]), values[k]);
            for (int row = 0; row < 3; row++) {
                int is = row == 0 ? bytes[k] : row == 1 ? shorts[k] : values[k];
                items(x, row, is == 0 ? ZERO : is == 1 ? ONE : OTHER);
            }
        }
    }

    /** PLACE: "no such place of a ROW". */
    private static void noneOfAnItem() {
        DreamGraves x = new DreamGraves();
        for (int n = 0; n <= 40; n += 20) {
            x.row(5, INTS, n);
            due("below", x.set(5, -1, 7), PLACE);
            due("behind the end", x.set(5, n, 7), PLACE);
            due("far below", x.set(5, MIN, 7), PLACE);
            due("far behind", x.set(5, MAX, 7), PLACE);
            if (n > 0) {
                due("the first", x.set(5, 0, 7), 7);
                due("the last", x.set(5, n - 1, 7), 7);
            }
        }
    }

    /** "n ITEMS of a from i on come to b from j on, as they were ahead". */
    private static void asTheyWereAhead() {
        DreamGraves x = wifeAlone();
        x.row(0, BYTES, 5);
        put(x, 0, 1, 0, 2, 1, 0);
        due("to the right over itself", x.copy(0, 0, 0, 1, 4), 4);
        items(x, 0, ONE, ONE, ZERO, OTHER, ONE);
        put(x, 0, 1, 0, 2, 1, 0);
        due("to the left over itself", x.copy(0, 1, 0, 0, 4), 4);
        items(x, 0, ZERO, OTHER, ONE, ZERO, ZERO);
        due("onto itself", x.copy(0, 0, 0, 0, 5), 5);
        items(x, 0, ZERO, OTHER, ONE, ZERO, ZERO);
        x.row(1, BYTES, 3);
        put(x, 1, 1, 1, 1);
        due("none", x.copy(0, 0, 1, 0, 0), 0);
        items(x, 1, ONE, ONE, ONE);
        due("one", x.copy(0, 0, 1, 1, 1), 1);
        items(x, 1, ONE, ZERO, ONE);
        items(x, 0, ZERO, OTHER, ONE, ZERO, ZERO);
    }

    /** PLACE: "i, j, n below 0, or beyond an end". */
    private static void toTheirEnds() {
        DreamGraves x = wifeAlone();
        x.row(0, INTS, 40);
        x.row(1, INTS, 40);
        x.row(2, INTS, 0);
        due("all", x.copy(0, 0, 1, 0, 40), 40);
        due("one more", x.copy(0, 0, 1, 0, 41), PLACE);
        due("the last to the first", x.copy(0, 39, 1, 0, 1), 1);
        due("the first to the last", x.copy(0, 0, 1, 39, 1), 1);
        due("beyond the end of a", x.copy(0, 39, 1, 0, 2), PLACE);
        due("beyond the end of b", x.copy(0, 0, 1, 39, 2), PLACE);
        due("none at both ends", x.copy(0, 40, 1, 40, 0), 0);
        due("none beyond the end of a", x.copy(0, 41, 1, 40, 0), PLACE);
        due("none beyond the end of b", x.copy(0, 40, 1, 41, 0), PLACE);
        due("none of none", x.copy(2, 0, 2, 0, 0), 0);
        due("one of none", x.copy(2, 0, 2, 0, 1), PLACE);
        due("i and n that wrap around", x.copy(0, MAX, 1, 0, 1), PLACE);
        due("j and n that wrap around", x.copy(0, 0, 1, MAX, 1), PLACE);
        due("n that wraps around", x.copy(0, 1, 1, 1, MAX), PLACE);
    }

    /** "A ROW is missing from now on: how many ITEMS it had". */
    private static void dropped() {
        DreamGraves x = wifeAlone();
        int[] sizes = {0, 1, 40};
        for (int n : sizes) {
            x.row(7, SHORTS, n);
            due("drop", x.drop(7), n);
            due("missing", x.count(0), 0);
            due("missing", x.drop(7), NULL);
            due("missing", x.set(7, 0, 0), NULL);
            due("missing", x.who(0, 7, 0, 1), NULL);
        }
        x.row(7, BYTES, 1);
        x.set(7, 0, 1);
        x.drop(7);
        x.row(7, BYTES, 1);
        items(x, 7, ZERO);
    }

    private EdgeRowsTest() {
    }
}
