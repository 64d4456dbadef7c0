/** Promises 9 to 15: hours, sheets burnt, files sent, winds, what each is, all undone. */
public final class ActsTest {
    private static final Check C = new Check();

    public static void main(String[] args) {
        hoursPass();
        hoursRefused();
        sheetsBurnt();
        filesSent();
        windsTurn();
        seen();
        undone();
        oldestForgotten();
        C.end("ActsTest");
    }

    private static void hoursPass() {
        // Band 0 carries by -2, 1 by -1, 2 by 1, 3 by 2; one sinks by 1.
        PaperSky x = Check.skyOf("w0,1,3,4,1;b5,6,0;b5,7,0;b5,11,0;b5,16,0;b5,17,0;");
        C.due("all above 0", x.hours(1), 5);
        C.dues("it sinks ahead of the wind: band 0", Check.one(x, 0), 3, 5, 0, 0);
        C.dues("band 1, below", Check.one(x, 1), 4, 6, 0, 0);
        C.dues("band 1, above", Check.one(x, 2), 4, 10, 0, 0);
        C.dues("band 2", Check.one(x, 3), 6, 15, 0, 0);
        C.dues("band 3", Check.one(x, 4), 7, 16, 0, 0);
        C.due("4 more: one is down", x.hours(5), 4);
        C.dues("land 0 at least, down", Check.one(x, 0), 0, 0, 0, 0);
        C.due("hour", x.count(3), 6);
        C.due("acts", x.count(6), 6);
        PaperSky y = Check.skyOf("w4,4,4,4,3;b8,20,0;b8,3,0;b8,0,0;");
        C.due("one stays up", y.hours(1), 1);
        C.due("land 9 at most", y.office(0, 0), 9);
        C.dues("at 0 nothing is carried", Check.one(y, 1), 8, 0, 0, 0);
        C.dues("0 at least", Check.one(y, 2), 8, 0, 0, 0);
        PaperSky z = Check.skyOf("w3,2,2,2,0;b0,1,0;");
        C.due("sinks by 0", z.hours(3), 1);
        C.dues("stays as high", Check.one(z, 0), 3, 1, 0, 0);
    }

    private static void hoursRefused() {
        PaperSky x = Check.skyOf("w3,2,2,2,0;b0,1,0;");
        C.due("0", x.hours(0), Check.BAD);
        C.due("-1", x.hours(-1), Check.BAD);
        C.due("25", x.hours(25), Check.BAD);
        for (int i = 0; i < 41; i++) {
            x.hours(24);
        }
        C.due("984 are gone", x.count(3), 984);
        C.due("1000 would be", x.hours(16), Check.FULL);
        C.due("BAD ahead of FULL", x.hours(25), Check.BAD);
        C.due("none passed", x.count(3), 984);
        C.due("999", x.hours(15), 1);
        C.due("999 are gone", x.count(3), 999);
        C.due("no more", x.hours(1), Check.FULL);
        C.due("undone", x.undo(), 23);
        C.due("998", x.count(3), 998);
        C.due("one again", x.hours(1), 1);
    }

    private static void sheetsBurnt() {
        PaperSky x = Check.skyOf("w2,2,2,2,1;b0,4,30;f0,4,30;l0,4,30;d0,4,30;a0,4,30;");
        C.due("a bureau by 2", x.burn(0, 3), 10);
        C.due("a frugal one by 1", x.burn(1, 3), 7);
        C.due("letters by 3", x.burn(2, 3), 13);
        C.due("a damp one by 1", x.burn(3, 3), 7);
        C.due("an archive by 1 up to 6", x.burn(4, 3), 6);
        C.due("and not at all above 5", x.burn(4, 20), 6);
        C.dues("burnt all the same", Check.one(x, 4), 0, 6, 7, 23);
        C.due("20 at most", x.burn(0, 20), 20);
        C.dues("burnt beyond it", Check.one(x, 0), 0, 20, 7, 23);
        C.due("all burnt", x.count(4), 23 + 3 + 3 + 3 + 23);
        C.due("it has 7", x.burn(0, 8), Check.STATE);
        C.due("all 7", x.burn(0, 7), 20);
        C.due("it has none", x.burn(0, 1), Check.STATE);
        C.due("0 sheets", x.burn(1, 0), Check.BAD);
        C.due("21 sheets", x.burn(1, 21), Check.BAD);
        C.due("BAD ahead of STATE", x.burn(0, 21), Check.BAD);
        C.due("office 5", x.burn(5, 1), Check.BAD);
        C.due("office -1", x.burn(-1, 1), Check.BAD);
        C.due("acts", x.count(6), 8);
    }

    private static void filesSent() {
        PaperSky x = Check.skyOf("w2,2,2,2,1;b3,4,60;f3,0,50;l4,4,30;");
        C.due("39 of 60", x.send(0, 1, 39), 89);
        C.due("21 left", x.office(0, 2), 21);
        C.due("nothing is burnt", x.count(4), 0);
        C.due("11 would be 100", x.send(0, 1, 11), Check.FULL);
        C.due("10 are 99", x.send(0, 1, 10), 99);
        C.due("not so many ahead of FULL", x.send(0, 1, 12), Check.STATE);
        C.due("another land", x.send(0, 2, 1), Check.STATE);
        C.due("alike", x.send(0, 0, 1), Check.BAD);
        C.due("0", x.send(0, 1, 0), Check.BAD);
        C.due("61", x.send(1, 0, 61), Check.BAD);
        C.due("60", x.send(1, 0, 60), 71);
        C.due("from 3", x.send(3, 0, 1), Check.BAD);
        C.due("to 3", x.send(0, 3, 1), Check.BAD);
        C.due("to -1", x.send(0, -1, 1), Check.BAD);
        C.due("BAD ahead of STATE", x.send(0, 2, 61), Check.BAD);
        C.due("acts", x.count(6), 3);
        C.due("undone", x.undo(), 2);
        PaperSky y = Check.skyOf("w2,2,2,2,1;b3,4,6;f3,0,5;");
        C.due("7 of 6", y.send(0, 1, 7), Check.STATE);
        C.due("all it has", y.send(0, 1, 6), 11);
        C.due("none left", y.office(0, 2), 0);
        C.dues("files as before", new long[] {x.office(0, 2), x.office(1, 2)}, 11, 99);
    }

    private static void windsTurn() {
        PaperSky x = Check.skyOf("w0,1,2,3,0;b5,3,0;b5,8,0;b5,13,0;b5,18,0;");
        C.due("was 0", x.wind(0, 4), 0);
        C.due("was 4", x.wind(0, 4), 4);
        C.due("was 1", x.wind(1, 0), 1);
        C.due("was 2", x.wind(2, 1), 2);
        C.due("was 3", x.wind(3, 3), 3);
        C.due("an act each", x.count(6), 5);
        x.hours(1);
        C.dues("carried anew", new long[] {x.office(0, 0), x.office(1, 0), x.office(2, 0), x.office(3, 0)}, 7, 3, 4, 6);
        C.due("band 4", x.wind(4, 0), Check.BAD);
        C.due("band -1", x.wind(-1, 0), Check.BAD);
        C.due("wind 5", x.wind(0, 5), Check.BAD);
        C.due("wind -1", x.wind(0, -1), Check.BAD);
        for (int i = 0; i < 6; i++) {
            x.undo();
        }
        C.due("as told", x.wind(0, 2), 0);
        C.due("as told", x.wind(1, 2), 1);
    }

    private static void seen() {
        PaperSky x = Check.skyOf("w2,2,2,2,0;b7,5,1;a7,6,2;a0,5,3;l9,15,4;f7,20,5;");
        int[][] due = {{7, 5, 1, 0, 0, 2}, {7, 6, 2, 0, 1, 0}, {0, 5, 3, 0, 0, 1}, {9, 15, 4, 0, 2, 3}, {7, 20, 5, 0, 3, 1}};
        for (int o = 0; o < due.length; o++) {
            for (int what = 0; what < 6; what++) {
                C.due("office " + o + ", " + what, x.office(o, what), due[o][what]);
            }
        }
        int[] heights = {0, 5, 6, 10, 11, 15, 16, 20};
        int[] bands = {0, 0, 1, 1, 2, 2, 3, 3};
        for (int i = 0; i < heights.length; i++) {
            PaperSky y = Check.skyOf("w2,2,2,2,0;d0," + heights[i] + ",0;");
            C.due("band of " + heights[i], y.office(0, 4), bands[i]);
            C.due("a damp one's lift", y.office(0, 5), 1);
        }
        C.due("what 6", x.office(0, 6), Check.BAD);
        C.due("what -1", x.office(0, -1), Check.BAD);
        C.due("office 5", x.office(5, 0), Check.BAD);
        C.due("office -1", x.office(-1, 0), Check.BAD);
        C.due("land 7", x.land(7), 0b10011);
        C.due("land 0", x.land(0), 0b00100);
        C.due("land 9", x.land(9), 0b01000);
        C.due("land 5", x.land(5), 0);
        C.due("land 10", x.land(10), Check.BAD);
        C.due("land -1", x.land(-1), Check.BAD);
    }

    private static void undone() {
        PaperSky x = Check.skyOf("w3,2,2,2,1;b0,5,9;b0,9,9;");
        C.due("none", x.undo(), Check.STATE);
        x.burn(0, 2);
        x.send(0, 1, 3);
        x.wind(1, 4);
        x.hours(2);
        C.dues("now", Check.one(x, 0), 4, 7, 4, 2);
        C.due("an hour back", x.undo(), 4);
        C.dues("an hour back", Check.one(x, 0), 2, 8, 4, 2);
        C.due("hour 1", x.count(3), 1);
        C.due("the hours back", x.undo(), 3);
        C.due("hour 0", x.count(3), 0);
        C.due("the wind back", x.undo(), 2);
        C.due("the wind was", x.wind(1, 2), 2);
        x.undo();
        C.due("the files back", x.undo(), 1);
        C.dues("the files back", Check.one(x, 1), 0, 9, 9, 0);
        C.due("the sheets back", x.undo(), 0);
        C.dues("as told", Check.one(x, 0), 0, 5, 9, 0);
        C.due("none", x.undo(), Check.STATE);
        x.burn(0, 10);
        x.send(0, 0, 1);
        x.wind(9, 9);
        x.hours(99);
        C.due("what is refused is no act", x.undo(), Check.STATE);
        x.ahead(0, 9, 0);
        x.drawn(9, 9, 0);
        C.due("what is foretold is no act", x.undo(), Check.STATE);
    }

    private static void oldestForgotten() {
        PaperSky x = Check.skyOf("w2,2,2,2,0;b0,5,60;");
        for (int i = 0; i < 30; i++) {
            x.burn(0, 1);
        }
        C.due("24 are kept", x.count(6), 24);
        for (int i = 23; i >= 0; i--) {
            C.due("undo", x.undo(), i);
        }
        C.due("6 are forgotten", x.office(0, 3), 6);
        C.due("none", x.undo(), Check.STATE);
        x.hours(24);
        x.hours(24);
        C.due("24 hours are kept", x.count(6), 24);
        for (int i = 0; i < 24; i++) {
            x.undo();
        }
        C.due("24 of 48", x.count(3), 24);
        C.due("none", x.undo(), Check.STATE);
    }
}
