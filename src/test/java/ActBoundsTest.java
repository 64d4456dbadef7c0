/** The boundary cases of promises 9 to 15, sentence by sentence; their refusals stand in RefusalsTest. */
public final class ActBoundsTest {
    private static final Check C = new Check();
    // One land on in band 0, two in 1; one land back in band 2, two in 3.
    private static final String WINDS = "w3,4,1,0,";

    public static void main(String[] args) {
        bandsByHeights();
        bandOfTheHeightThatItSinksTo();
        sinksToZeroAtLeast();
        landsAtTheEnds();
        oneToTwentyFourHours();
        hourNineHundredNinetyNine();
        howManyAreUp();
        oneToTwentySheets();
        allItsFiles();
        twentyAtMost();
        archives();
        halfIsCut();
        oneToSixtyFiles();
        ninetyNineFiles();
        inOneLand();
        windsZeroToFour();
        liftsNow();
        officesInLands();
        C.end("ActBoundsTest");
    }

    private static PaperSky one(String winds, int sinks, int land, int height) {
        return Check.skyOf(winds + sinks + ";b" + land + "," + height + ",60;");
    }

    /** "A HEIGHT is in BAND 0 if it is below 6, 1 below 11, 2 below 16, else 3." */
    private static void bandsByHeights() {
        int[] drifts = {1, 2, -1, -2};
        for (int height = 0; height <= 20; height++) {
            int band = height < 6 ? 0 : height < 11 ? 1 : height < 16 ? 2 : 3;
            PaperSky x = one(WINDS, 0, 5, height);
            C.due("band of " + height, x.office(0, 4), band);
            x.hours(1);
            C.due("carried at " + height, x.office(0, 0), height == 0 ? 5 : 5 + drifts[band]);
            C.due("as high", x.office(0, 1), height);
        }
    }

    /** "sinks by SINKS ...; then, if it is above 0, the WIND of its BAND carries it". */
    private static void bandOfTheHeightThatItSinksTo() {
        int[] drifts = {1, 2, -1, -2};
        for (int sinks = 1; sinks <= 3; sinks++) {
            for (int height = sinks + 1; height <= 20; height++) {
                int to = height - sinks;
                int band = to < 6 ? 0 : to < 11 ? 1 : to < 16 ? 2 : 3;
                PaperSky x = one(WINDS, sinks, 5, height);
                C.due("one is up", x.hours(1), 1);
                C.dues("from " + height + " by " + sinks, Check.one(x, 0), 5 + drifts[band], to, 60, 0);
            }
        }
    }

    /** "sinks by SINKS (0 at least); then, if it is above 0". */
    private static void sinksToZeroAtLeast() {
        for (int sinks = 0; sinks <= 3; sinks++) {
            for (int height = 0; height <= sinks; height++) {
                PaperSky x = one(WINDS, sinks, 5, height);
                C.due("none is up", x.hours(1), 0);
                C.dues("from " + height + " by " + sinks, Check.one(x, 0), 5, 0, 60, 0);
            }
        }
        C.due("1 above it", one(WINDS, 3, 5, 4).hours(1), 1);
    }

    /** "LAND 0 at least, 9 at most". */
    private static void landsAtTheEnds() {
        for (int wind = 0; wind <= 4; wind++) {
            for (int land = 0; land <= 9; land++) {
                PaperSky x = one("w" + wind + ",2,2,2,", 0, land, 1);
                x.hours(1);
                int due = land + wind - 2;
                C.due("wind " + wind + ", land " + land, x.office(0, 0), due < 0 ? 0 : due > 9 ? 9 : due);
            }
        }
        PaperSky x = one("w4,2,2,2,", 0, 8, 1);
        x.hours(5);
        C.due("at 9 for good", x.office(0, 0), 9);
        x.wind(0, 0);
        x.hours(1);
        C.due("from 9 back, not from beyond it", x.office(0, 0), 7);
        PaperSky y = one("w0,2,2,2,", 0, 1, 1);
        y.hours(5);
        y.wind(0, 4);
        y.hours(1);
        C.due("from 0 on, not from below it", y.office(0, 0), 2);
    }

    /** "n HOURS (1 to 24), an ACT each". */
    private static void oneToTwentyFourHours() {
        PaperSky x = one(WINDS, 0, 0, 1);
        C.due("0", x.hours(0), Check.BAD);
        C.due("1", x.hours(1), 1);
        C.due("an act", x.count(6), 1);
        C.due("hour 1", x.count(3), 1);
        PaperSky y = one(WINDS, 0, 0, 1);
        C.due("25", y.hours(25), Check.BAD);
        C.due("24", y.hours(24), 1);
        C.due("24 acts", y.count(6), 24);
        C.due("hour 24", y.count(3), 24);
        for (int left = 23; left >= 0; left--) {
            C.due("one back", y.undo(), left);
            C.due("hour", y.count(3), left);
            C.due("land", y.office(0, 0), Math.min(9, left));
        }
        C.due("none", y.undo(), Check.STATE);
    }

    /** "FULL: more than 999 would be gone." */
    private static void hourNineHundredNinetyNine() {
        PaperSky x = one(WINDS, 0, 0, 1);
        for (int i = 0; i < 40; i++) {
            x.hours(24);
        }
        x.hours(15);
        C.due("975", x.count(3), 975);
        C.due("24 more: 999", x.hours(24), 1);
        C.due("999", x.count(3), 999);
        C.due("1 more", x.hours(1), Check.FULL);
        C.due("24 more", x.hours(24), Check.FULL);
        C.due("0 more: BAD", x.hours(0), Check.BAD);
        x.undo();
        C.due("2 more than 998", x.hours(2), Check.FULL);
        C.due("none of the two", x.count(3), 998);
        C.due("1 more than 998", x.hours(1), 1);
        C.isTrue("a sheet can be burnt yet", x.burn(0, 1) == 3);
        x.image(0);
        Check.tell(x, "w2,2,2,2,0;b0,1,0;");
        C.due("another sky: from 0 on", x.hours(24), 1);
        x.restore(0);
        C.due("as its image: 999", x.hours(1), Check.FULL);
    }

    /** "how many offices are above HEIGHT 0": none up to all five, behind the hours. */
    private static void howManyAreUp() {
        PaperSky x = Check.skyOf("w2,2,2,2,1;b0,1,0;b0,2,0;b0,3,0;b0,4,0;b0,5,0;");
        C.due("bits: all", x.count(5), 0b11111);
        int[] bits = {0b11110, 0b11100, 0b11000, 0b10000, 0};
        for (int hour = 1; hour <= 5; hour++) {
            C.due("hour " + hour, x.hours(1), 5 - hour);
            C.due("bits", x.count(5), bits[hour - 1]);
        }
        C.due("none", x.hours(24), 0);
    }

    /** "An office BURNS n sheets (1 to 20)". */
    private static void oneToTwentySheets() {
        PaperSky x = Check.skyOf("w2,2,2,2,1;d0,0,60;");
        C.due("0", x.burn(0, 0), Check.BAD);
        C.due("1", x.burn(0, 1), 1);
        C.dues("1", Check.one(x, 0), 0, 1, 59, 1);
        C.due("21", x.burn(0, 21), Check.BAD);
        C.due("20", x.burn(0, 20), 20);
        C.dues("20", Check.one(x, 0), 0, 20, 39, 21);
        C.due("two acts", x.count(6), 2);
        C.due("20 back at once", x.undo(), 1);
        C.dues("1", Check.one(x, 0), 0, 1, 59, 1);
    }

    /** "STATE: it has not so many." */
    private static void allItsFiles() {
        for (int files = 0; files <= 20; files++) {
            PaperSky x = Check.skyOf("w2,2,2,2,1;d0,0," + files + ";");
            C.due("one more than " + files, x.burn(0, files + 1), files == 20 ? Check.BAD : Check.STATE);
            C.due("all " + files, x.burn(0, files), files == 0 ? Check.BAD : files);
            C.dues("none left", Check.one(x, 0), 0, files, 0, files);
            C.due("one more", x.burn(0, 1), Check.STATE);
        }
    }

    /** "HEIGHT is 20 at most." */
    private static void twentyAtMost() {
        String sorts = "bfld";
        int[] lifts = {2, 1, 3, 1};
        for (int i = 0; i < 4; i++) {
            for (int height = 0; height <= 20; height++) {
                PaperSky x = Check.skyOf("w2,2,2,2,0;" + sorts.charAt(i) + "0," + height + ",60;");
                int due = Math.min(20, height + lifts[i]);
                C.due(sorts.charAt(i) + " from " + height, x.burn(0, 1), due);
                C.dues("it is burnt", Check.one(x, 0), 0, due, 59, 1);
                C.due("20 sheets", x.burn(0, 20), 20);
                C.dues("all are burnt", Check.one(x, 0), 0, 20, 39, 21);
            }
        }
    }

    /** "an archive as a damp one, but not at all above HEIGHT 5 (it is burnt all the same)"; "sheet by sheet". */
    private static void archives() {
        for (int height = 0; height <= 20; height++) {
            for (int n = 1; n <= 20; n++) {
                PaperSky x = Check.skyOf("w2,2,2,2,0;a0," + height + ",60;");
                int due = height > 5 ? height : Math.min(6, height + n);
                C.due(n + " sheets from " + height, x.burn(0, n), due);
                C.dues("burnt all the same", Check.one(x, 0), 0, due, 60 - n, n);
            }
        }
    }

    /** "a frugal one half of that (cut)": each sheet by itself lifts 1. */
    private static void halfIsCut() {
        for (int n = 1; n <= 20; n++) {
            PaperSky x = Check.skyOf("w2,2,2,2,0;f0,0,60;b0,0,60;l0,0,60;d0,0,60;");
            C.due("frugal by " + n, x.burn(0, n), n);
            C.due("bureau by " + n, x.burn(1, n), Math.min(20, 2 * n));
            C.due("letters by " + n, x.burn(2, n), Math.min(20, 3 * n));
            C.due("damp by " + n, x.burn(3, n), n);
            C.due("all burnt", x.count(4), 4 * n);
        }
    }

    /** "n FILES (1 to 60) are sent ... BAD: alike, too"; "not so many". */
    private static void oneToSixtyFiles() {
        PaperSky x = Check.skyOf("w2,2,2,2,0;b0,0,60;b0,9,0;");
        C.due("0", x.send(0, 1, 0), Check.BAD);
        C.due("61", x.send(0, 1, 61), Check.BAD);
        C.due("60", x.send(0, 1, 60), 60);
        C.dues("none left", Check.one(x, 0), 0, 0, 0, 0);
        C.dues("all there", Check.one(x, 1), 0, 9, 60, 0);
        C.due("none to send", x.send(0, 1, 1), Check.STATE);
        C.due("1 back", x.send(1, 0, 1), 1);
        C.due("2 of 1", x.send(0, 1, 2), Check.STATE);
        C.due("1 of 1", x.send(0, 1, 1), 60);
        C.due("alike", x.send(1, 1, 1), Check.BAD);
        C.due("nothing is burnt", x.count(4), 0);
        C.due("three acts", x.count(6), 3);
    }

    /** "FULL: it would have more than 99." */
    private static void ninetyNineFiles() {
        PaperSky x = Check.skyOf("w2,2,2,2,0;b0,0,60;b0,0,40;b0,0,60;");
        C.due("100", x.send(1, 0, 40), Check.FULL);
        C.due("99", x.send(1, 0, 39), 99);
        C.due("1 more", x.send(1, 0, 1), Check.FULL);
        C.due("60 more", x.send(2, 0, 60), Check.FULL);
        C.due("2 of 1: STATE", x.send(1, 0, 2), Check.STATE);
        C.due("from 99 on", x.send(0, 1, 60), 61);
        C.due("39 left", x.office(0, 2), 39);
        C.due("60 of them", x.send(2, 0, 60), 99);
        for (int i = 0; i < 4; i++) {
            x.burn(0, 20);
        }
        C.due("19 of 99", x.office(0, 2), 19);
        C.due("20", x.burn(0, 20), Check.STATE);
        C.due("19", x.burn(0, 19), 20);
        C.due("all 99", x.office(0, 3), 99);
    }

    /** "STATE: they are not in one LAND": the height does not matter. */
    private static void inOneLand() {
        PaperSky x = Check.skyOf("w3,2,2,2,0;b0,1,9;b1,0,9;b0,20,9;");
        C.due("0 and 1", x.send(0, 1, 1), Check.STATE);
        C.due("0 and 20 high", x.send(0, 2, 1), 10);
        x.hours(1);
        C.due("carried to it", x.send(0, 1, 1), 10);
        C.due("carried from it", x.send(0, 2, 1), Check.STATE);
        C.due("back", x.undo(), 2);
        x.undo();
        C.due("an hour back", x.send(0, 1, 1), Check.STATE);
    }

    /** "The WIND of a BAND (0 to 4): what it was." */
    private static void windsZeroToFour() {
        PaperSky x = Check.skyOf("w0,1,3,4,0;b5,1,0;b5,6,0;b5,11,0;b5,16,0;");
        int[] was = {0, 1, 3, 4};
        for (int band = 0; band < 4; band++) {
            C.due("5", x.wind(band, 5), Check.BAD);
            C.due("-1", x.wind(band, -1), Check.BAD);
            C.due("band " + band + ": 4", x.wind(band, 4), was[band]);
            C.due("band " + band + ": 0", x.wind(band, 0), 4);
            C.due("band " + band + ": 0 again", x.wind(band, 0), 0);
            C.due("band " + band + ": " + was[3 - band], x.wind(band, was[3 - band]), 0);
        }
        C.due("an act each", x.count(6), 16);
        x.hours(1);
        long[] lands = {x.office(0, 0), x.office(1, 0), x.office(2, 0), x.office(3, 0)};
        C.dues("each by its own", lands, 7, 6, 4, 3);
        C.due("band 4", x.wind(4, 0), Check.BAD);
        C.due("band -1", x.wind(-1, 0), Check.BAD);
    }

    /** "5 by how much a sheet LIFTS it now (20 does not matter)". */
    private static void liftsNow() {
        String sorts = "bflda";
        int[] lifts = {2, 1, 3, 1, 1};
        for (int i = 0; i < 5; i++) {
            for (int height = 0; height <= 20; height++) {
                PaperSky x = Check.skyOf("w2,2,2,2,0;" + sorts.charAt(i) + "0," + height + ",0;");
                C.due(sorts.charAt(i) + " at " + height, x.office(0, 5), i == 4 && height > 5 ? 0 : lifts[i]);
            }
        }
        PaperSky x = Check.skyOf("w2,2,2,2,1;a0,5,9;");
        x.burn(0, 1);
        C.due("at 6", x.office(0, 5), 0);
        x.hours(1);
        C.due("at 5 again", x.office(0, 5), 1);
    }

    /** "Offices in a LAND (bits)." */
    private static void officesInLands() {
        PaperSky x = Check.skyOf("w4,2,2,2,1;b0,1,0;b0,2,0;b0,3,0;b0,4,0;b0,5,0;");
        C.due("all in 0", x.land(0), 0b11111);
        C.due("none in 9", x.land(9), 0);
        x.hours(1);
        C.due("one stays in 0", x.land(0), 0b00001);
        C.due("four in 2", x.land(2), 0b11110);
        x.hours(4);
        C.due("2", x.land(2), 0b00010);
        C.due("4", x.land(4), 0b00100);
        C.due("6", x.land(6), 0b01000);
        C.due("8", x.land(8), 0b10000);
        C.due("-1", x.land(-1), Check.BAD);
        C.due("10", x.land(10), Check.BAD);
    }
}
