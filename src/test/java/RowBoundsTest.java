/** The boundary cases of promises 2 to 5, sentence by sentence; their refusals stand in RefusalsTest. */
public final class RowBoundsTest {
    private static final Check C = new Check();
    private static final int LEAST = Integer.MIN_VALUE, MOST = Integer.MAX_VALUE;
    // No wind, nothing sinks: who() by no sheet tells whether an item is the office's height, 0, 7 or 20.
    private static final String HEIGHTS = "w2,2,2,2,0;b0,0,0;b0,7,0;b0,20,0;";

    public static void main(String[] args) {
        missingAtFirst();
        zeroToFortyItems();
        zeroAtFirst();
        inPlaceOfWhatIsThere();
        lowestBits();
        bitsAreKept();
        copiedAsTheyWereAhead();
        copiedToTheEnds();
        copiedByLanes();
        missingFromNowOn();
        C.end("RowBoundsTest");
    }

    private static boolean is(PaperSky x, int row, int i, int height) {
        return x.who(height == 0 ? 0 : height == 7 ? 1 : 2, row, i, 1, 0) == 0b111110;
    }

    /** "ROWS 0 .. 7 are missing (at first)". */
    private static void missingAtFirst() {
        for (int row = 0; row < 8; row++) {
            PaperSky x = new PaperSky();
            C.due("drop " + row, x.drop(row), Check.NULL);
            C.due("set " + row, x.set(row, 0, 0), Check.NULL);
            C.due("copy " + row, x.copy(row, 0, row, 0, 0), Check.NULL);
            C.due("no row", x.count(0), 0);
            C.due("row " + row, x.row(row, 2, 3), 3);
            C.due("one row", x.count(0), 1);
        }
        PaperSky x = new PaperSky();
        for (int row = 0; row < 8; row++) {
            x.row(row, row % 3, row);
        }
        C.due("all eight", x.count(0), 8);
        for (int row = 0; row < 8; row++) {
            C.due("each has its own", x.drop(row), row);
        }
    }

    /** "a LANE (0 bytes, 1 shorts, 2 ints) and 0 to 40 ITEMS"; "BAD: ... n above 40; SIZE". */
    private static void zeroToFortyItems() {
        for (int lane = 0; lane <= 2; lane++) {
            PaperSky x = new PaperSky();
            C.due("0 items", x.row(0, lane, 0), 0);
            C.due("it is no missing one", x.set(0, 0, 0), Check.PLACE);
            C.due("it is a row", x.count(0), 1);
            C.due("1 item", x.row(0, lane, 1), 1);
            C.due("its only place", x.set(0, 0, 5), 5);
            C.due("no second", x.set(0, 1, 5), Check.PLACE);
            C.due("40 items", x.row(0, lane, 40), 40);
            C.due("the last place", x.set(0, 39, 5), 5);
            C.due("none behind it", x.set(0, 40, 5), Check.PLACE);
            C.due("41 items", x.row(0, lane, 41), Check.BAD);
            C.due("-1 items", x.row(0, lane, -1), Check.SIZE);
            C.due("it has 40 yet", x.drop(0), 40);
        }
    }

    /** "ITEMS, 0 at first". */
    private static void zeroAtFirst() {
        for (int lane = 0; lane <= 2; lane++) {
            PaperSky x = Check.skyOf(HEIGHTS);
            x.row(7, lane, 40);
            for (int i = 0; i < 40; i++) {
                C.isTrue("item " + i, is(x, 7, i, 0));
            }
        }
    }

    /** "A ROW of a LANE with n ITEMS, in place of what is there". */
    private static void inPlaceOfWhatIsThere() {
        PaperSky x = Check.skyOf(HEIGHTS);
        x.row(0, 0, 3);
        for (int i = 0; i < 3; i++) {
            x.set(0, i, 7);
        }
        x.row(0, 0, 3);
        C.isTrue("anew as long, all 0", is(x, 0, 0, 0) && is(x, 0, 1, 0) && is(x, 0, 2, 0));
        x.set(0, 2, 7);
        x.row(0, 0, 2);
        C.due("shorter", x.set(0, 2, 1), Check.PLACE);
        x.row(0, 0, 4);
        C.isTrue("what the longer one had does not come again", is(x, 0, 2, 0));
        C.due("longer", x.set(0, 3, 1), 1);
        C.due("a byte", x.set(0, 0, 300), 44);
        x.row(0, 1, 4);
        C.due("a short", x.set(0, 0, 300), 300);
        x.row(0, 2, 4);
        C.due("an int", x.set(0, 0, 70000), 70000);
        x.row(0, 0, 4);
        C.due("a byte again", x.set(0, 0, 300), 44);
        C.due("one row all the time", x.count(0), 1);
    }

    /** "ITEM i becomes v, its lowest bits, as many as the LANE has: what it is then". */
    private static void lowestBits() {
        PaperSky x = new PaperSky();
        x.row(0, 0, 1);
        x.row(1, 1, 1);
        x.row(2, 2, 1);
        int[][] cases = {
            // v, as a byte, as a short
            {0, 0, 0}, {1, 1, 1}, {-1, -1, -1}, {127, 127, 127}, {128, -128, 128}, {-128, -128, -128}, {-129, 127, -129},
            {255, -1, 255}, {256, 0, 256}, {-255, 1, -255}, {-256, 0, -256}, {-257, -1, -257}, {32767, -1, 32767},
            {32768, 0, -32768}, {-32768, 0, -32768}, {-32769, -1, 32767}, {65535, -1, -1}, {65536, 0, 0},
            {65537, 1, 1}, {-65536, 0, 0}, {-65537, -1, -1}, {0x12345678, 0x78, 0x5678}, {0x1234F681, -127, -2431},
            {MOST, -1, -1}, {LEAST, 0, 0}, {LEAST + 1, 1, 1}};
        for (int[] one : cases) {
            C.due("byte of " + one[0], x.set(0, 0, one[0]), one[1]);
            C.due("short of " + one[0], x.set(1, 0, one[0]), one[2]);
            C.due("int of " + one[0], x.set(2, 0, one[0]), one[0]);
        }
    }

    /** What set answers is what stands there. */
    private static void bitsAreKept() {
        PaperSky x = Check.skyOf(HEIGHTS);
        int[] wraps = {256, 65536};
        for (int lane = 0; lane <= 1; lane++) {
            x.row(lane, lane, 3);
            x.set(lane, 0, wraps[lane] + 7);
            x.set(lane, 1, -wraps[lane]);
            x.set(lane, 2, -wraps[lane] + 20);
            C.isTrue("7", is(x, lane, 0, 7));
            C.isTrue("0", is(x, lane, 1, 0));
            C.isTrue("20", is(x, lane, 2, 20));
        }
        x.row(2, 2, 2);
        x.set(2, 0, 65536 + 7);
        x.set(2, 1, 256);
        C.isTrue("an int is not cut to 7", !is(x, 2, 0, 7));
        C.isTrue("an int is not cut to 0", !is(x, 2, 1, 0));
        x.row(3, 1, 1);
        x.set(3, 0, 256 + 7);
        C.isTrue("a short is not cut to a byte", !is(x, 3, 0, 7));
        x.set(3, 0, 20);
        x.set(3, 0, 7);
        C.isTrue("the later one stands", is(x, 3, 0, 7));
    }

    /** "n ITEMS of a from i on come to b from j on, as they were ahead" on rows of 0, 7, 20, 7, 0. */
    private static void copiedAsTheyWereAhead() {
        int[] first = {0, 7, 20, 7, 0, 20};
        for (int i = 0; i <= 6; i++) {
            for (int j = 0; j <= 6; j++) {
                for (int n = 0; n <= 6; n++) {
                    copiedOntoItself(first, i, j, n);
                }
            }
        }
    }

    private static void copiedOntoItself(int[] first, int i, int j, int n) {
        PaperSky x = Check.skyOf(HEIGHTS);
        Check.tellRow(x, 0, first);
        String call = "copy(0, " + i + ", 0, " + j + ", " + n + ")";
        int[] due = first.clone();
        if (i + n > 6 || j + n > 6) {
            C.due(call, x.copy(0, i, 0, j, n), Check.PLACE);
        } else {
            C.due(call, x.copy(0, i, 0, j, n), n);
            for (int k = 0; k < n; k++) {
                due[j + k] = first[i + k];
            }
        }
        for (int k = 0; k < 6; k++) {
            C.isTrue(call + ", item " + k, is(x, 0, k, due[k]));
        }
    }

    /** "PLACE (i, j, n below 0, or beyond an end)": up to each end, and one beyond. */
    private static void copiedToTheEnds() {
        PaperSky x = Check.skyOf(HEIGHTS);
        x.row(0, 2, 40);
        Check.tellRow(x, 1, 7, 20, 7);
        C.due("all of it to the end", x.copy(1, 0, 0, 37, 3), 3);
        C.isTrue("they come there", is(x, 0, 36, 0) && is(x, 0, 37, 7) && is(x, 0, 38, 20) && is(x, 0, 39, 7));
        C.due("one place further", x.copy(1, 0, 0, 38, 3), Check.PLACE);
        C.due("one place less", x.copy(1, 0, 0, -1, 3), Check.PLACE);
        C.due("one more than there are", x.copy(1, 0, 0, 0, 4), Check.PLACE);
        C.due("from one place on, as many", x.copy(1, 1, 0, 0, 3), Check.PLACE);
        C.due("from one place on, fewer", x.copy(1, 1, 0, 0, 2), 2);
        C.isTrue("they come there", is(x, 0, 0, 20) && is(x, 0, 1, 7) && is(x, 0, 2, 0));
        C.due("the last one", x.copy(0, 39, 1, 2, 1), 1);
        C.due("none, behind both", x.copy(0, 40, 1, 3, 0), 0);
        C.due("none, beyond the first", x.copy(0, 41, 1, 3, 0), Check.PLACE);
        C.due("none, beyond the second", x.copy(0, 40, 1, 4, 0), Check.PLACE);
        C.due("40 onto itself", x.copy(0, 0, 0, 0, 40), 40);
        C.due("41", x.copy(0, 0, 0, 0, 41), Check.PLACE);
        C.due("39, one on", x.copy(0, 0, 0, 1, 39), 39);
        C.isTrue("moved by one", is(x, 0, 0, 20) && is(x, 0, 1, 20) && is(x, 0, 2, 7) && is(x, 0, 38, 7) && is(x, 0, 39, 20));
        x.row(2, 2, 0);
        C.due("none of none", x.copy(2, 0, 2, 0, 0), 0);
        C.due("one of none", x.copy(2, 0, 2, 0, 1), Check.PLACE);
    }

    /** "STORE (ROWS of two LANES)": each lane with each. */
    private static void copiedByLanes() {
        PaperSky x = new PaperSky();
        for (int row = 0; row < 6; row++) {
            x.row(row, row % 3, 2);
        }
        for (int a = 0; a < 6; a++) {
            for (int b = 0; b < 6; b++) {
                C.due("lanes " + a % 3 + ", " + b % 3, x.copy(a, 0, b, 0, 2), a % 3 == b % 3 ? 2 : Check.STORE);
            }
        }
    }

    /** "A ROW is missing from now on: how many ITEMS it had." */
    private static void missingFromNowOn() {
        PaperSky x = Check.skyOf(HEIGHTS);
        x.row(0, 2, 40);
        x.set(0, 0, 7);
        C.due("40", x.drop(0), 40);
        C.due("drop", x.drop(0), Check.NULL);
        C.due("set", x.set(0, 0, 1), Check.NULL);
        C.due("copy", x.copy(0, 0, 0, 0, 0), Check.NULL);
        C.due("petition", x.petition(0, 0, 0, 1), Check.NULL);
        C.due("ash", x.ash(0, 0, 0, 1, 0), Check.NULL);
        C.due("who", x.who(0, 0, 0, 1, 0), Check.NULL);
        C.due("SIZE does not make it one", x.row(0, 2, -1), Check.SIZE);
        C.due("yet", x.drop(0), Check.NULL);
        x.row(0, 2, 1);
        C.isTrue("its items do not come again", is(x, 0, 0, 0));
        C.due("1", x.drop(0), 1);
        x.row(0, 1, 0);
        C.due("0", x.drop(0), 0);
    }
}
