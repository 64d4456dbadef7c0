/** Promises 16 to 28: what would come, by examples worked out by hand, edges and wrong numbers. */
public final class ForetoldTest {
    private static final Check C = new Check();
    private static final int LEAST = Integer.MIN_VALUE, MOST = Integer.MAX_VALUE;

    public static void main(String[] args) {
        aheadOfOne();
        downToGround();
        meetings();
        overLands();
        aboveLands();
        aboveRefused();
        petitions();
        petitionsRefused();
        ashes();
        whoItIs();
        ruledLands();
        hoursUp();
        filesKept();
        windsByOdds();
        hoursByDraws();
        nothingChanges();
        C.end("ForetoldTest");
    }

    private static void aheadOfOne() {
        PaperSky x = Check.skyOf("w0,1,3,4,1;b5,12,9;");
        C.due("now", x.ahead(0, 0, 0), 5);
        C.due("now", x.ahead(0, 0, 1), 12);
        C.due("1: band 2", x.ahead(0, 1, 0), 6);
        C.due("2: band 1", x.ahead(0, 2, 0), 5);
        C.due("6: band 1 yet", x.ahead(0, 6, 0), 1);
        C.due("7: band 0", x.ahead(0, 7, 0), 0);
        C.due("7", x.ahead(0, 7, 1), 5);
        C.due("60", x.ahead(0, 60, 1), 0);
        C.due("61", x.ahead(0, 61, 0), Check.BAD);
        C.due("-1", x.ahead(0, -1, 0), Check.BAD);
        C.due("what 2", x.ahead(0, 1, 2), Check.BAD);
        C.due("what -1", x.ahead(0, 1, -1), Check.BAD);
        C.due("office 1", x.ahead(1, 1, 0), Check.BAD);
    }

    private static void downToGround() {
        PaperSky x = Check.skyOf("w2,2,2,2,3;b0,0,9;b0,1,9;b0,3,9;b0,4,9;b0,20,9;");
        int[] due = {0, 1, 1, 2, 7};
        for (int o = 0; o < due.length; o++) {
            C.due("down " + o, x.down(o), due[o]);
        }
        C.due("office 5", x.down(5), Check.BAD);
        C.due("office -1", x.down(-1), Check.BAD);
        PaperSky y = Check.skyOf("w2,2,2,2,0;b0,0,9;b0,1,9;");
        C.due("at 0 now", y.down(0), 0);
        C.due("never", y.down(1), Check.NONE);
    }

    private static void meetings() {
        PaperSky x = Check.skyOf("w4,2,2,2,1;b1,5,0;b1,5,9;b2,5,0;b5,4,0;b9,4,0;");
        C.due("now", x.meet(0, 1), 0);
        C.due("in land 9, as high", x.meet(0, 2), 4);
        C.due("the other way round", x.meet(2, 0), 4);
        C.due("one above the other until both are down", x.meet(2, 4), 5);
        C.due("in land 9 first", x.meet(3, 4), 2);
        C.due("alike", x.meet(0, 0), Check.BAD);
        C.due("office 5", x.meet(0, 5), Check.BAD);
        C.due("office -1", x.meet(-1, 0), Check.BAD);
        PaperSky y = Check.skyOf("w2,2,2,2,0;b1,5,0;b2,5,9;b1,6,0;");
        C.due("never in one land", y.meet(0, 1), Check.NONE);
        C.due("never as high", y.meet(0, 2), Check.NONE);
    }

    private static void overLands() {
        PaperSky x = Check.skyOf("w3,2,1,2,0;b1,5,0;b2,5,0;b3,12,0;b2,0,0;");
        C.due("2 in 2 now", x.over(2, 0), 2);
        C.due("3 in 2 behind 1", x.over(2, 1), 3);
        C.due("2 in 9 at last", x.over(9, 60), 2);
        C.due("1 in 0 at last", x.over(0, 60), 1);
        C.due("none in 5", x.over(5, 0), 0);
        C.due("land 10", x.over(10, 0), Check.BAD);
        C.due("land -1", x.over(-1, 0), Check.BAD);
        C.due("61", x.over(0, 61), Check.BAD);
        C.due("-1", x.over(0, -1), Check.BAD);
    }

    private static long[] plan(PaperSky x, int office, int land, int n, int h) {
        long[] got = new long[n + 2];
        for (int k = -1; k <= n; k++) {
            got[k + 1] = x.above(office, land, n, h, k);
        }
        return got;
    }

    private static void aboveLands() {
        PaperSky x = Check.skyOf("w2,3,1,2,1;b5,4,5;b5,4,0;a5,4,60;l5,0,60;");
        C.dues("it stands", plan(x, 0, 5, 1, 3), 0, 0, Check.NONE);
        C.dues("4 high by a sheet", plan(x, 0, 5, 1, 4), 1, 1, Check.NONE);
        C.dues("as late as it may be", plan(x, 0, 5, 2, 4), 1, 0, 1, Check.NONE);
        C.dues("one land on: band 1 once", plan(x, 0, 6, 2, 0), 2, 0, 2, Check.NONE);
        C.dues("two lands on", plan(x, 0, 7, 2, 0), 2, 2, 0, Check.NONE);
        C.dues("two lands on, 9 high", plan(x, 0, 7, 2, 9), 4, 2, 2, Check.NONE);
        C.dues("first a low hour", plan(x, 0, 7, 3, 9), 4, 0, 2, 2, Check.NONE);
        C.dues("too high for 5 sheets", plan(x, 0, 5, 2, 13), Check.NONE, Check.NONE, Check.NONE, Check.NONE);
        C.dues("without files", plan(x, 1, 6, 2, 0), Check.NONE, Check.NONE, Check.NONE, Check.NONE);
        C.dues("without files it may stand", plan(x, 1, 5, 2, 2), 0, 0, 0, Check.NONE);
        C.dues("an archive is never above 5 behind an hour", plan(x, 2, 5, 3, 6), Check.NONE, Check.NONE, Check.NONE, Check.NONE, Check.NONE);
        C.dues("3 at most ahead of an hour", plan(x, 3, 5, 1, 9), Check.NONE, Check.NONE, Check.NONE);
        C.dues("3 are enough for 8", plan(x, 3, 6, 1, 8), 3, 3, Check.NONE);
        PaperSky y = Check.skyOf("w2,2,2,2,0;b5,20,60;b0,0,60;");
        C.dues("12 hours", plan(y, 0, 5, 12, 20), 0, 0, 0, 0, 0, 0, 0, 0, 0, 0, 0, 0, 0, Check.NONE);
        C.dues("the last rows first", plan(y, 1, 0, 5, 20), 10, 0, 1, 3, 3, 3, Check.NONE);
        PaperSky z = Check.skyOf("w2,2,2,2,0;b0,0,10;b0,0,9;");
        C.dues("10 sheets are all it has", plan(z, 0, 0, 4, 20), 10, 1, 3, 3, 3, Check.NONE);
        C.due("9 are too few", z.above(1, 0, 4, 20, -1), Check.NONE);
        C.due("9 are too few", z.above(1, 0, 4, 20, 0), Check.NONE);
        C.due("k far on", y.above(1, 0, 5, 20, MOST), Check.NONE);
    }

    private static void aboveRefused() {
        PaperSky x = Check.skyOf("w2,3,1,2,1;b5,4,5;");
        C.due("office 1", x.above(1, 5, 1, 0, -1), Check.BAD);
        C.due("land 10", x.above(0, 10, 1, 0, -1), Check.BAD);
        C.due("land -1", x.above(0, -1, 1, 0, -1), Check.BAD);
        C.due("n 0", x.above(0, 5, 0, 0, -1), Check.BAD);
        C.due("n 13", x.above(0, 5, 13, 0, -1), Check.BAD);
        C.due("h -1", x.above(0, 5, 1, -1, -1), Check.BAD);
        C.due("h 21", x.above(0, 5, 1, 21, -1), Check.BAD);
        C.due("k -2", x.above(0, 5, 1, 0, -2), Check.BAD);
        C.due("k least", x.above(0, 5, 1, 0, LEAST), Check.BAD);
        C.due("n most", x.above(0, 5, MOST, 0, 0), Check.BAD);
    }

    private static void petitions() {
        PaperSky x = Check.skyOf("w3,2,2,2,1;b2,5,0;b3,5,0;b4,8,0;b0,0,0;");
        Check.tellRow(x, 0, 0, 1, 2, 3, 0, 1, 1, 0, 2, 2, 2);
        C.due("now", x.petition(2, 0, 0, 1), 0);
        C.due("1 in 4 behind 1, 0 behind 2", x.petition(4, 0, 5, 1), 1);
        C.due("0 behind 2", x.petition(4, 0, 0, 1), 2);
        C.due("1, then 0", x.petition(4, 0, 7, 1), 2);
        C.due("1, 1, 0", x.petition(4, 0, 5, 3), 2);
        C.due("0, then 1 that is gone by then", x.petition(4, 0, 0, 2), Check.NONE);
        C.due("2 is too high until it has sunk to 5", x.petition(4, 0, 2, 1), Check.NONE);
        C.due("it is carried on as it reads", x.petition(5, 0, 2, 1), 3);
        C.due("2, again and again", x.petition(5, 0, 8, 3), 3);
        C.due("3 stays at 0", x.petition(0, 0, 3, 1), 0);
        C.due("0 is never in 0", x.petition(0, 0, 3, 2), Check.NONE);
        PaperSky y = Check.skyOf("w2,2,2,2,0;b4,6,0;b4,5,0;");
        Check.tellRow(y, 0, 0, 1, 1, 1, 1, 1, 1, 1, 1);
        C.due("6 is too high", y.petition(4, 0, 0, 1), Check.NONE);
        C.due("5 is not; 8 at once", y.petition(4, 0, 1, 8), 0);
        PaperSky z = Check.skyOf("w2,2,2,2,1;b4,20,0;d4,5,0;");
        Check.tellRow(z, 0, 1, 0, 1);
        C.due("behind 15", z.petition(4, 0, 0, 3), 15);
    }

    private static void petitionsRefused() {
        PaperSky x = Check.skyOf("w2,2,2,2,0;b4,5,0;b4,5,0;");
        Check.tellRow(x, 0, 0, 1, 2, -1, 0, 0, 0, 0, 0, 0);
        C.due("land 10", x.petition(10, 0, 0, 1), Check.BAD);
        C.due("land -1", x.petition(-1, 0, 0, 1), Check.BAD);
        C.due("row 8", x.petition(4, 8, 0, 1), Check.BAD);
        C.due("n 0", x.petition(4, 0, 0, 0), Check.BAD);
        C.due("n 9", x.petition(4, 0, 0, 9), Check.BAD);
        C.due("BAD ahead of NULL", x.petition(4, 1, 0, 9), Check.BAD);
        C.due("missing", x.petition(4, 1, -1, 1), Check.NULL);
        C.due("place -1", x.petition(4, 0, -1, 1), Check.PLACE);
        C.due("place 10", x.petition(4, 0, 10, 1), Check.PLACE);
        C.due("PLACE ahead of an item", x.petition(4, 0, 3, 8), Check.PLACE);
        C.due("place most", x.petition(4, 0, MOST, 8), Check.PLACE);
        C.due("item 2", x.petition(4, 0, 2, 1), Check.BAD);
        C.due("item -1", x.petition(4, 0, 3, 1), Check.BAD);
        C.due("an item far on", x.petition(5, 0, 0, 3), Check.BAD);
        C.due("up to it", x.petition(4, 0, 0, 2), 0);
    }

    private static void ashes() {
        PaperSky x = Check.skyOf("w2,2,2,2,1;b0,4,0;a0,6,0;b0,20,0;f0,1,0;");
        Check.tellRow(x, 0, 5, 8, 7, 19, 19, 19, 19, 19, 19, 5, 5, 5, 4, -1, 21);
        C.due("how many", x.ash(0, 0, 0, 3, -1), 1);
        C.due("1 sheet", x.ash(0, 0, 0, 3, 0), 1);
        C.due("2 sheets", x.ash(0, 0, 0, 3, 1), 2);
        C.due("0 sheets", x.ash(0, 0, 0, 3, 2), 0);
        C.due("from 3 on", x.ash(0, 0, 0, 3, 3), Check.NONE);
        C.due("from 3 on", x.ash(0, 0, 0, 3, MOST), Check.NONE);
        C.due("at 20 all fit; then 1 or more", x.ash(2, 0, 3, 6, -1), 4 * 3 * 3 * 3 * 3 * 3);
        C.due("the first one", x.ash(2, 0, 3, 6, 0), 0);
        C.due("the first one", x.ash(2, 0, 3, 6, 5), 1);
        C.due("an archive: 6 all fit, then 1 or more", x.ash(1, 0, 9, 3, -1), 4 * 3 * 3);
        C.due("an archive's first", x.ash(1, 0, 9, 3, 1), 1);
        C.due("an archive: 5, 5, 5, 4", x.ash(1, 0, 9, 4, -1), 4 * 3 * 3);
        C.due("none fit", x.ash(3, 0, 0, 1, -1), 0);
        C.due("none fit", x.ash(3, 0, 0, 1, 0), Check.NONE);
        C.due("no such height", x.ash(0, 0, 13, 1, -1), 0);
        C.due("no such height", x.ash(2, 0, 14, 1, -1), 0);
        Check.tellRow(x, 1, 0, 0, 0);
        C.due("down: 0 or 1", x.ash(3, 1, 0, 3, -1), 1 * 2 * 2);
        C.due("office 4", x.ash(4, 0, 0, 1, -1), Check.BAD);
        C.due("row -1", x.ash(0, -1, 0, 1, -1), Check.BAD);
        C.due("n 0", x.ash(0, 0, 0, 0, -1), Check.BAD);
        C.due("n 7", x.ash(0, 0, 0, 7, -1), Check.BAD);
        C.due("k -2", x.ash(0, 0, 0, 1, -2), Check.BAD);
        C.due("BAD ahead of NULL", x.ash(0, 5, 0, 7, -1), Check.BAD);
        C.due("missing", x.ash(0, 5, -1, 1, -1), Check.NULL);
        C.due("place", x.ash(0, 0, 10, 6, -1), Check.PLACE);
        C.due("place -1", x.ash(0, 0, -1, 1, -1), Check.PLACE);
        C.due("place most", x.ash(0, 0, MOST, 6, 0), Check.PLACE);
    }

    private static void whoItIs() {
        PaperSky x = Check.skyOf("w2,2,2,2,1;d0,4,0;f0,19,0;");
        Check.tellRow(x, 0, 3, 2, 1, 0, 0, 0, 0, 0, 0, 0, 0, 0, 5, 9, 6, 19, 18);
        C.due("none burnt: all kinds, 12 hours", x.who(0, 0, 0, 12, 0), 0b111110);
        C.due("1 burnt", x.who(0, 0, 0, 2, 1), 0);
        C.due("2 sheets: an archive, a damp, a frugal one", x.who(0, 0, 12, 1, 2), 0b110100);
        C.due("3 sheets: a bureau", x.who(0, 0, 13, 1, 3), 0b000010);
        C.due("3 sheets: a frugal, a damp one", x.who(0, 0, 14, 1, 3), 0b010100);
        C.due("20 sheets: an archive", x.who(0, 0, 12, 1, 20), 0b100000);
        C.due("20 at most", x.who(0, 0, 15, 2, 20), 0b011110);
        C.due("above 5 an archive is not lifted", x.who(1, 0, 16, 1, 1), 0b100000);
        C.due("office 2", x.who(2, 0, 0, 1, 0), Check.BAD);
        C.due("row 8", x.who(0, 8, 0, 1, 0), Check.BAD);
        C.due("n 0", x.who(0, 0, 0, 0, 0), Check.BAD);
        C.due("n 13", x.who(0, 0, 0, 13, 0), Check.BAD);
        C.due("s 21", x.who(0, 0, 0, 1, 21), Check.BAD);
        C.due("s -1", x.who(0, 0, 0, 1, -1), Check.BAD);
        C.due("BAD ahead of NULL", x.who(0, 1, 0, 1, 21), Check.BAD);
        C.due("missing", x.who(0, 1, 99, 1, 0), Check.NULL);
        C.due("place", x.who(0, 0, 6, 12, 0), Check.PLACE);
        C.due("place -1", x.who(0, 0, -1, 1, 0), Check.PLACE);
        C.due("place most", x.who(0, 0, MOST, 12, 0), Check.PLACE);
    }

    private static void ruledLands() {
        PaperSky x = Check.skyOf("w3,2,1,2,0;b7,5,0;b4,12,0;b3,0,0;");
        C.due("behind 1: 3 has 2", x.rule(1, 0), 3);
        C.due("behind 1: 3 has 2", x.rule(1, 1), 2);
        C.due("behind 60: 3 has 61, 9 has 59", x.rule(60, 1), 61);
        PaperSky y = Check.skyOf("w3,2,1,2,0;b7,5,0;b4,0,0;b2,0,0;");
        C.due("of several the first", y.rule(1, 0), 2);
        C.due("1 each", y.rule(1, 1), 1);
        C.due("2 and 4 alike", y.rule(60, 0), 2);
        C.due("60", y.rule(60, 1), 60);
        PaperSky z = Check.skyOf("w4,2,1,2,0;b0,5,0;");
        C.due("what is now does not count", z.rule(1, 0), 2);
        PaperSky v = Check.skyOf("w2,2,2,2,0;b0,5,0;b1,5,0;b0,5,0;");
        C.due("land 0", v.rule(3, 0), 0);
        C.due("land 0", v.rule(3, 1), 6);
        v = Check.skyOf("w2,2,2,2,0;b0,5,0;b1,5,0;b1,5,0;");
        C.due("land 1", v.rule(3, 0), 1);
        v = Check.skyOf("w2,2,2,2,0;b0,5,0;b9,5,0;b9,5,0;");
        C.due("land 9", v.rule(60, 0), 9);
        C.due("land 9", v.rule(60, 1), 120);
        C.due("n 0", x.rule(0, 0), Check.BAD);
        C.due("n 61", x.rule(61, 0), Check.BAD);
        C.due("what 2", x.rule(1, 2), Check.BAD);
        C.due("what -1", x.rule(1, -1), Check.BAD);
    }

    private static void hoursUp() {
        PaperSky x = Check.skyOf("w2,2,2,2,2;b0,4,3;f0,4,3;l0,1,3;b0,0,9;a0,3,9;");
        // 4 2 | 2+2-2 three times | 0
        C.due("a bureau", x.lasts(0), 4);
        C.due("a frugal one: 4 2 1", x.lasts(1), 2);
        C.due("letters: 1+3-2, 2+3-2, 3-2, 1+3-2", x.lasts(2), 4);
        C.due("at 0 now", x.lasts(3), 0);
        C.due("an archive: 3 1, then 1+1-2", x.lasts(4), 1);
        C.due("office 5", x.lasts(5), Check.BAD);
        C.due("office -1", x.lasts(-1), Check.BAD);
        PaperSky y = Check.skyOf("w2,2,2,2,0;b0,1,0;b0,0,60;");
        C.due("99 at most", y.lasts(0), 99);
        C.due("at 0 now", y.lasts(1), 0);
        PaperSky z = Check.skyOf("w2,2,2,2,3;l0,20,60;d0,20,60;b0,3,1;d0,3,0;");
        C.due("6, and one a sheet", z.lasts(0), 66);
        C.due("a damp one: 20 17 14 11 8 5 2, 2+1-3", z.lasts(1), 6);
        C.due("3+2-3, then down", z.lasts(2), 1);
        C.due("none", z.lasts(3), 0);
    }

    private static void filesKept() {
        PaperSky x = Check.skyOf("w2,2,2,2,2;b0,4,3;f0,4,3;b0,0,60;");
        C.due("one hour without", x.kept(0, 1), 0);
        C.due("2 hours by 1", x.kept(0, 2), 1);
        C.due("24 by 23", x.kept(0, 24), 23);
        C.due("a frugal one: 2 by 1", x.kept(1, 2), 1);
        C.due("a frugal one: never 3", x.kept(1, 3), Check.NONE);
        C.due("at 0 now", x.kept(2, 1), Check.NONE);
        C.due("n 0", x.kept(0, 0), Check.BAD);
        C.due("n 25", x.kept(0, 25), Check.BAD);
        C.due("office 3", x.kept(3, 1), Check.BAD);
        C.due("its own files stay", x.office(0, 2), 3);
    }

    private static void odds(PaperSky x, int office, int land, int n, int p, long above, long below) {
        String call = "turned(" + office + ", " + land + ", " + n + ", " + p + ")";
        C.due(call + " above", x.turned(office, land, n, p, 0), above);
        C.due(call + " below", x.turned(office, land, n, p, 1), below);
    }

    private static void windsByOdds() {
        PaperSky x = Check.skyOf("w3,4,2,0,1;b5,4,0;b5,8,0;b5,0,0;b1,20,0;b5,13,0;");
        odds(x, 0, 6, 1, 3, 7, 10);
        odds(x, 0, 4, 1, 3, 3, 10);
        odds(x, 0, 5, 1, 3, 0, 1);
        odds(x, 0, 8, 3, 5, 1, 2);
        odds(x, 0, 2, 3, 5, 1, 2);
        odds(x, 0, 6, 3, 5, 0, 1);
        odds(x, 0, 6, 1, 0, 1, 1);
        odds(x, 0, 4, 1, 10, 1, 1);
        odds(x, 0, 6, 1, 10, 0, 1);
        // Hours in bands 1, 1, 0: 9 and 8 or so, by two bands apart.
        odds(x, 1, 9, 3, 2, 16, 25);
        odds(x, 1, 8, 3, 2, 4, 25);
        odds(x, 1, 2, 3, 2, 4, 25);
        odds(x, 1, 0, 3, 2, 1, 25);
        odds(x, 2, 5, 12, 7, 1, 1);
        odds(x, 2, 4, 12, 7, 0, 1);
        odds(x, 3, 0, 1, 4, 3, 5);
        odds(x, 3, 3, 1, 4, 2, 5);
        // The wind of band 2 is none, the other way too.
        odds(x, 4, 5, 2, 6, 1, 1);
        C.due("office 5", x.turned(5, 0, 1, 0, 0), Check.BAD);
        C.due("land 10", x.turned(0, 10, 1, 0, 0), Check.BAD);
        C.due("land -1", x.turned(0, -1, 1, 0, 0), Check.BAD);
        C.due("n 0", x.turned(0, 0, 0, 0, 0), Check.BAD);
        C.due("n 13", x.turned(0, 0, 13, 0, 0), Check.BAD);
        C.due("p 11", x.turned(0, 0, 1, 11, 0), Check.BAD);
        C.due("p -1", x.turned(0, 0, 1, -1, 0), Check.BAD);
        C.due("what 2", x.turned(0, 0, 1, 0, 2), Check.BAD);
        C.due("what -1", x.turned(0, 0, 1, 0, -1), Check.BAD);
    }

    private static void hoursByDraws() {
        PaperSky x = Check.skyOf("w4,2,2,2,1;b0,3,9;b9,0,1;");
        C.due("none: nothing is burnt", x.drawn(0, 1, 0), 0);
        C.due("none: lands as they are", x.drawn(0, 1, 1), 9);
        // X = 16807: office 1 has 1 sheet for 3; it rises to 2, sinks to 1, stays at land 9.
        C.due("one hour", x.drawn(1, 1, 0), 1);
        C.due("one hour", x.drawn(1, 1, 1), 2 + 9);
        // X = 282475249: office 1 has none for 1 sheet.
        C.due("two hours", x.drawn(2, 1, 0), 1);
        C.due("two hours", x.drawn(2, 1, 1), 4 + 9);
        // X = 1622650073: office 1 again; then X = 984943658: office 0, 2 sheets.
        C.due("four hours", x.drawn(4, 1, 0), 3);
        C.due("four hours: 0 is down at 4, then rises to 4, sinks to 3", x.drawn(4, 1, 1), 6 + 9);
        // One office alone: 3, 1, 1, 2 of its sheets.
        PaperSky y = Check.skyOf("w3,3,3,3,0;f0,0,6;");
        C.due("alone, 3 hours", y.drawn(3, 1, 0), 5);
        C.due("alone, its files are fewer", y.drawn(4, 1, 0), 6);
        C.due("alone, carried", y.drawn(4, 1, 1), 4);
        C.due("n 61", x.drawn(61, 1, 0), Check.BAD);
        C.due("n -1", x.drawn(-1, 1, 0), Check.BAD);
        C.due("seed 0", x.drawn(1, 0, 0), Check.BAD);
        C.due("seed 1000000", x.drawn(1, 1000000, 0), Check.BAD);
        C.due("what 2", x.drawn(1, 1, 2), Check.BAD);
        C.due("what -1", x.drawn(1, 1, -1), Check.BAD);
        C.isTrue("seed 999999", x.drawn(60, 999999, 0) >= 0);
    }

    private static void nothingChanges() {
        PaperSky x = Check.skyOf("w4,1,2,3,1;b0,13,9;l9,7,30;");
        Check.tellRow(x, 0, 0, 1, 0);
        x.ahead(0, 60, 0);
        x.down(0);
        x.meet(0, 1);
        x.over(3, 60);
        x.above(1, 3, 12, 5, 3);
        x.petition(3, 0, 0, 3);
        x.ash(1, 0, 0, 3, 0);
        x.who(1, 0, 0, 3, 20);
        x.rule(60, 0);
        x.lasts(1);
        x.kept(1, 24);
        x.turned(0, 3, 12, 5, 0);
        x.drawn(60, 77, 0);
        C.dues("0", Check.one(x, 0), 0, 13, 9, 0);
        C.dues("1", Check.one(x, 1), 9, 7, 30, 0);
        C.due("hour", x.count(3), 0);
        C.due("acts", x.count(6), 0);
        for (int band = 0; band < 4; band++) {
            C.due("wind", x.wind(band, 0), new int[] {4, 1, 2, 3}[band]);
        }
    }
}
