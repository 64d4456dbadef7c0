/** The boundary cases of promises 16 to 21, sentence by sentence; their refusals stand in RefusalsTest. */
public final class ForetoldBoundsTest {
    private static final Check C = new Check();
    private static final int NONE = Check.NONE, MOST = Integer.MAX_VALUE;

    public static void main(String[] args) {
        aheadByZeroToSixty();
        downByHeights();
        meetNowAndLater();
        meetNever();
        overByZeroToSixty();
        aboveByOneToTwelve();
        aboveByHeights();
        threeAtMostAheadOfEach();
        filesTogether();
        firstByNumbers();
        theKth();
        landsAtTheEnds();
        belowSix();
        oneToEightReaders();
        inTheirOrder();
        readersOfEachLane();
        petitionLate();
        C.end("ForetoldBoundsTest");
    }

    /** "AHEAD by n HOURS (0 to 60)": as the hours would bring it, which they do on another object. */
    private static void aheadByZeroToSixty() {
        String[] texts = {"w4,0,3,1,1;b0,20,9;f9,8,9;l5,12,9;d3,1,9;a9,0,9;", "w3,3,3,3,0;b0,1,0;l0,6,0;d0,11,0;a0,16,0;b9,20,0;",
            "w0,4,1,3,3;b9,20,0;b5,19,0;b1,4,0;b1,3,0;b1,2,0;"};
        for (String text : texts) {
            PaperSky x = Check.skyOf(text);
            PaperSky y = Check.skyOf(text);
            for (int n = 0; n <= 60; n++) {
                if (n > 0) {
                    y.hours(1);
                }
                // Another object now and then: 512 calls are all that it is good for.
                x = n % 20 == 0 ? Check.skyOf(text) : x;
                for (int office = 0; office < 5; office++) {
                    C.due(n + " ahead: land", x.ahead(office, n, 0), y.office(office, 0));
                    C.due(n + " ahead: height", x.ahead(office, n, 1), y.office(office, 1));
                }
            }
            C.due("61", x.ahead(0, 61, 0), Check.BAD);
            C.due("-1", x.ahead(0, -1, 1), Check.BAD);
        }
    }

    /** "DOWN: behind how many HOURS (0: now ...) one is at HEIGHT 0 first; NONE": the latest is 20. */
    private static void downByHeights() {
        for (int sinks = 0; sinks <= 3; sinks++) {
            for (int height = 0; height <= 20; height++) {
                PaperSky x = Check.skyOf("w4,4,4,4," + sinks + ";b0," + height + ",60;");
                int due = height == 0 ? 0 : sinks == 0 ? NONE : (height + sinks - 1) / sinks;
                C.due("from " + height + " by " + sinks, x.down(0), due);
            }
        }
    }

    /** "MEET: ... (0: now ...) two are first in one LAND, at one HEIGHT"; the latest there can be is 20. */
    private static void meetNowAndLater() {
        PaperSky x = Check.skyOf("w4,2,2,2,1;b3,20,0;d3,20,60;b3,19,0;b9,6,0;b2,4,9;");
        C.due("now", x.meet(0, 1), 0);
        C.due("now, the other way round", x.meet(1, 0), 0);
        C.due("in one land, both at 0", x.meet(0, 2), 20);
        C.due("both at 0 in 9, first", x.meet(0, 3), 20);
        // 2 goes 4, 6, 8 and is down at 8; 4 is never there.
        C.due("down in two lands", x.meet(3, 4), NONE);
        PaperSky y = Check.skyOf("w4,2,2,2,0;b0,5,0;b9,5,0;b1,5,0;b9,4,0;");
        C.due("0 comes to 9 behind 5", y.meet(0, 1), 5);
        C.due("1 comes to 9 behind 4", y.meet(2, 1), 4);
        C.due("0 and 1 in 9", y.meet(0, 2), 5);
        C.due("in one land, at two heights", y.meet(0, 3), NONE);
    }

    private static void meetNever() {
        PaperSky x = Check.skyOf("w2,2,2,2,0;b3,20,0;b3,19,0;b4,20,0;b3,0,0;b4,0,0;");
        for (int office = 0; office < 5; office++) {
            for (int other = 0; other < 5; other++) {
                C.due("meet(" + office + ", " + other + ")", x.meet(office, other), office == other ? Check.BAD : NONE);
            }
        }
    }

    /** "OVER: how many offices are in a LAND behind n HOURS (0 to 60)". */
    private static void overByZeroToSixty() {
        PaperSky x = Check.skyOf("w3,2,2,1,0;b0,1,0;b0,5,0;b0,0,0;b9,16,0;b9,20,0;");
        C.due("0: three in 0", x.over(0, 0), 3);
        C.due("0: two in 9", x.over(9, 0), 2);
        C.due("0: none in 5", x.over(5, 0), 0);
        C.due("1: one in 0", x.over(0, 1), 1);
        C.due("4: two in 4", x.over(4, 4), 2);
        C.due("4: two in 5", x.over(5, 4), 2);
        C.due("60: three in 0", x.over(0, 60), 3);
        C.due("60: two in 9", x.over(9, 60), 2);
        C.due("61", x.over(0, 61), Check.BAD);
        C.due("-1", x.over(0, -1), Check.BAD);
        PaperSky y = Check.skyOf("w2,2,2,2,3;b4,0,0;b4,5,0;b4,6,0;b4,20,0;b4,1,0;");
        C.due("all five", y.over(4, 60), 5);
        C.due("all five now", y.over(4, 0), 5);
    }

    private static long[] row(PaperSky x, int office, int land, int n, int h) {
        long[] got = new long[n + 1];
        for (int k = -1; k < n; k++) {
            got[k + 1] = x.above(office, land, n, h, k);
        }
        C.due("from n on", x.above(office, land, n, h, n), NONE);
        C.due("far from n on", x.above(office, land, n, h, MOST), NONE);
        C.due("k below -1", x.above(office, land, n, h, -2), Check.BAD);
        return got;
    }

    /** "ABOVE for one, a LAND, n HOURS (1 to 12)". */
    private static void aboveByOneToTwelve() {
        PaperSky x = Check.skyOf("w3,2,2,2,0;b0,1,0;b0,0,3;");
        for (int n = 1; n <= 12; n++) {
            C.due("carried to " + Math.min(9, n), x.above(0, Math.min(9, n), n, 1, -1), 0);
            C.due("no further", x.above(0, Math.max(0, Math.min(8, n - 1)), n, 0, -1), NONE);
            C.due("it stays in 0", x.above(1, 0, n, 0, -1), 0);
            C.due("one land on: the last hour", x.above(1, 1, n, 0, n - 1), 1);
        }
        C.due("0", x.above(0, 0, 0, 0, -1), Check.BAD);
        C.due("13", x.above(0, 9, 13, 0, -1), Check.BAD);
        // By the ninth hour ahead of the last one it must be up; no row of one sheet is by numbers ahead of that.
        C.dues("12 hours, up in the last 9", row(x, 1, 9, 12, 0), 1, 0, 0, 0, 1, 0, 0, 0, 0, 0, 0, 0, 0);
    }

    /** "HEIGHT h or more (0 to 20)". */
    private static void aboveByHeights() {
        PaperSky x = Check.skyOf("w2,2,2,2,0;b0,14,60;d0,17,60;");
        for (int h = 0; h <= 20; h++) {
            C.due("a bureau, " + h, x.above(0, 0, 1, h, -1), h <= 14 ? 0 : (h - 13) / 2);
            C.due("a damp one, " + h, x.above(1, 0, 1, h, 0), Math.max(0, h - 17));
        }
        C.due("-1", x.above(0, 0, 1, -1, -1), Check.BAD);
        C.due("21", x.above(0, 0, 1, 21, -1), Check.BAD);
        PaperSky y = Check.skyOf("w2,2,2,2,1;b0,20,60;a0,20,60;a0,5,60;");
        C.due("19 behind an hour", y.above(0, 0, 1, 19, -1), 0);
        C.due("20 never, as it sinks", y.above(0, 0, 12, 20, -1), NONE);
        C.due("an archive that was above 5", y.above(1, 0, 12, 8, -1), 0);
        C.due("it is lifted no more", y.above(1, 0, 12, 9, -1), NONE);
        C.dues("5 behind 2", row(y, 2, 0, 2, 5), 2, 0, 2);
        C.due("6 never", y.above(2, 0, 12, 6, -1), NONE);
    }

    /** "3 at most ahead of each HOUR". */
    private static void threeAtMostAheadOfEach() {
        PaperSky x = Check.skyOf("w2,2,2,2,0;d0,0,60;b0,0,60;l0,0,60;");
        for (int n = 1; n <= 6; n++) {
            C.due("damp: 3 by 3", x.above(0, 0, n, 3 * n, -1), 3 * n);
            C.due("damp: its row", x.above(0, 0, n, 3 * n, 0), 3);
            C.due("damp: one more", x.above(0, 0, n, 3 * n + 1, -1), NONE);
        }
        C.due("a bureau: 6", x.above(1, 0, 1, 6, -1), 3);
        C.due("a bureau: 7", x.above(1, 0, 1, 7, -1), NONE);
        C.due("letters: 9", x.above(2, 0, 1, 9, -1), 3);
        C.due("letters: 10", x.above(2, 0, 1, 10, -1), NONE);
        PaperSky y = Check.skyOf("w2,2,2,2,3;d0,17,60;d0,20,60;d0,17,36;d0,17,35;");
        C.dues("36: as it was", row(y, 0, 0, 12, 17), 36, 3, 3, 3, 3, 3, 3, 3, 3, 3, 3, 3, 3);
        C.dues("33: none at 20", row(y, 1, 0, 12, 17), 33, 0, 3, 3, 3, 3, 3, 3, 3, 3, 3, 3, 3);
        C.due("36 of 36", y.above(2, 0, 12, 17, -1), 36);
        C.due("36 of 35", y.above(3, 0, 12, 17, -1), NONE);
        C.dues("35 of 35", row(y, 3, 0, 12, 16), 35, 2, 3, 3, 3, 3, 3, 3, 3, 3, 3, 3, 3);
    }

    /** "FILES together": as many as there are, over all hours. */
    private static void filesTogether() {
        for (int files = 0; files <= 9; files++) {
            PaperSky x = Check.skyOf("w2,2,2,2,0;d0,0," + files + ";");
            C.due("all " + files, x.above(0, 0, 3, files, -1), files);
            C.due("one more", x.above(0, 0, 3, files + 1, -1), NONE);
            C.due("one more, the k-th", x.above(0, 0, 3, files + 1, 0), NONE);
        }
        PaperSky y = Check.skyOf("w2,2,2,2,0;d0,0,3;d0,0,2;");
        C.due("3", y.above(0, 0, 12, 3, -1), 3);
        y.burn(0, 1);
        C.dues("2 left, 1 high", row(y, 0, 0, 2, 3), 2, 0, 2);
        y.send(1, 0, 2);
        C.due("4 left, 1 high", y.above(0, 0, 2, 5, -1), 4);
        C.due("none left", y.above(1, 0, 2, 1, -1), NONE);
    }

    /** "of rows of these the first (by numbers)". */
    private static void firstByNumbers() {
        PaperSky x = Check.skyOf("w2,2,2,2,0;b0,0,60;d0,0,60;");
        C.dues("1", row(x, 0, 0, 4, 1), 1, 0, 0, 0, 1);
        C.dues("2 are as good in one hour", row(x, 0, 0, 4, 3), 2, 0, 0, 0, 2);
        C.dues("4", row(x, 0, 0, 4, 8), 4, 0, 0, 1, 3);
        C.dues("6", row(x, 0, 0, 4, 12), 6, 0, 0, 3, 3);
        C.dues("10", row(x, 0, 0, 4, 20), 10, 1, 3, 3, 3);
        C.dues("12 by one", row(x, 1, 0, 12, 20), 20, 0, 0, 0, 0, 0, 2, 3, 3, 3, 3, 3, 3);
        // One land on in band 0, two back in band 1, none in band 2.
        PaperSky y = Check.skyOf("w3,0,2,2,1;b5,1,60;");
        C.dues("up by 3 to be in band 1", row(y, 0, 3, 1, 0), 3, 3);
        C.dues("then by 3 to be in band 2", row(y, 0, 3, 2, 0), 6, 3, 3);
        C.dues("band 1, then band 0: by 3 alone", row(y, 0, 4, 2, 0), 3, 3, 0);
        C.dues("of 1, 3 and 2, 2 the first", row(y, 0, 4, 2, 6), 4, 1, 3);
    }

    /** "how many (k = -1), ahead of the k-th HOUR (0 on); NONE: also from n on. BAD: k below -1, too." */
    private static void theKth() {
        PaperSky x = Check.skyOf("w2,2,2,2,0;d0,0,60;d0,0,0;");
        C.dues("six", row(x, 0, 0, 3, 6), 6, 0, 3, 3);
        C.dues("none can be", row(x, 1, 0, 3, 6), NONE, NONE, NONE, NONE);
        C.dues("none is needed", row(x, 1, 0, 3, 0), 0, 0, 0, 0);
        C.dues("another land", row(x, 0, 1, 3, 0), NONE, NONE, NONE, NONE);
    }

    private static void landsAtTheEnds() {
        PaperSky x = Check.skyOf("w4,0,2,2,0;b9,5,60;b0,6,60;b8,1,3;");
        C.due("carried at 9", x.above(0, 9, 12, 0, -1), 0);
        C.due("carried at 0", x.above(1, 0, 12, 0, -1), 0);
        C.due("land 10", x.above(0, 10, 1, 0, -1), Check.BAD);
        C.due("land -1", x.above(1, -1, 1, 0, -1), Check.BAD);
        C.dues("from 8 to 9, then back to 7, to 5", row(x, 2, 5, 3, 0), 3, 0, 3, 0);
        C.dues("from 8 to 9, to 9, to 7", row(x, 2, 7, 3, 0), 3, 0, 0, 3);
    }

    /** "in that LAND with HEIGHT below 6 (now, or behind any HOUR ...)". */
    private static void belowSix() {
        for (int sinks = 0; sinks <= 3; sinks++) {
            for (int height = 0; height <= 20; height++) {
                PaperSky x = Check.skyOf("w2,2,2,2," + sinks + ";b4," + height + ",0;");
                x.row(0, 0, 1);
                int due = height < 6 ? 0 : sinks == 0 ? NONE : (height - 5 + sinks - 1) / sinks;
                C.due("from " + height + " by " + sinks, x.petition(4, 0, 0, 1), due);
                C.due("another land", x.petition(5, 0, 0, 1), NONE);
            }
        }
        PaperSky y = Check.skyOf("w2,2,2,2,0;b0,5,0;b9,5,0;");
        Check.tellRow(y, 0, 0, 1);
        C.due("land 0", y.petition(0, 0, 0, 1), 0);
        C.due("land 9", y.petition(9, 0, 1, 1), 0);
        C.due("land -1", y.petition(-1, 0, 0, 1), Check.BAD);
        C.due("land 10", y.petition(10, 0, 0, 1), Check.BAD);
    }

    /** "a row tells offices (1 to 8, one after another; one may come again)". */
    private static void oneToEightReaders() {
        PaperSky x = Check.skyOf("w2,2,2,2,0;b4,5,0;b4,0,0;b4,1,0;b4,2,0;b4,6,0;");
        x.row(0, 2, 40);
        for (int i = 0; i < 40; i++) {
            x.set(0, i, i % 4);
        }
        C.due("0 of them", x.petition(4, 0, 0, 0), Check.BAD);
        for (int n = 1; n <= 8; n++) {
            C.due(n + " at once", x.petition(4, 0, 0, n), 0);
            C.due(n + " at the row's end", x.petition(4, 0, 40 - n, n), 0);
            C.due(n + " beyond its end", x.petition(4, 0, 41 - n, n), Check.PLACE);
        }
        C.due("9 of them", x.petition(4, 0, 0, 9), Check.BAD);
        x.set(0, 7, 4);
        C.due("the eighth never reads", x.petition(4, 0, 0, 8), NONE);
        C.due("7 without it", x.petition(4, 0, 0, 7), 0);
        x.set(0, 7, 5);
        C.due("the eighth is none", x.petition(4, 0, 0, 8), Check.BAD);
        C.due("7 without it", x.petition(4, 0, 0, 7), 0);
        x.set(0, 7, -1);
        C.due("the eighth is none", x.petition(4, 0, 0, 8), Check.BAD);
    }

    /** "whoever is next reads it ... several may at once, in their order". */
    private static void inTheirOrder() {
        // One land on each hour: 0 in land 4 behind 1, 1 behind 2, 2 behind 3.
        PaperSky x = Check.skyOf("w3,2,2,2,0;b3,5,0;b2,5,0;b1,5,0;b4,0,0;");
        Check.tellRow(x, 0, 0, 1, 2, 2, 1, 0, 3, 0, 3, 1, 3, 2, 3);
        C.due("0, 1, 2", x.petition(4, 0, 0, 3), 3);
        C.due("0, 1, 2, 2", x.petition(4, 0, 0, 4), 3);
        C.due("2, then 1, that is gone", x.petition(4, 0, 3, 2), NONE);
        C.due("1, then 0, that is gone", x.petition(4, 0, 4, 2), NONE);
        C.due("3 between all of them", x.petition(4, 0, 6, 7), 3);
        C.due("none in 3 but 0, now", x.petition(3, 0, 0, 2), 1);
    }

    private static void readersOfEachLane() {
        for (int lane = 0; lane <= 2; lane++) {
            PaperSky x = Check.skyOf("w2,2,2,2,0;b4,5,0;b4,0,0;");
            x.row(0, lane, 3);
            x.set(0, 0, 1);
            x.set(0, 1, 256);
            x.set(0, 2, 65537);
            C.due("1", x.petition(4, 0, 0, 1), 0);
            C.due("256 is 0 as a byte", x.petition(4, 0, 1, 1), lane == 0 ? 0 : Check.BAD);
            C.due("65537 is 1 but as an int", x.petition(4, 0, 2, 1), lane < 2 ? 0 : Check.BAD);
        }
    }

    /** The latest that there can be: 15 hours to sink from 20 to 5. */
    private static void petitionLate() {
        PaperSky x = Check.skyOf("w2,2,2,2,1;b4,20,0;b4,19,0;");
        Check.tellRow(x, 0, 1, 0, 1);
        C.due("14", x.petition(4, 0, 0, 1), 14);
        C.due("15", x.petition(4, 0, 0, 2), 15);
        C.due("15", x.petition(4, 0, 0, 3), 15);
        C.due("all on the ground for good", x.petition(5, 0, 0, 1), NONE);
    }
}
