/** The boundary cases of promises 22 to 28, sentence by sentence; their refusals stand in RefusalsTest. */
public final class OddsBoundsTest {
    private static final Check C = new Check();
    private static final int NONE = Check.NONE, LEAST = Integer.MIN_VALUE, MOST = Integer.MAX_VALUE;

    public static void main(String[] args) {
        ashOfOneToSix();
        ashByZeroToThree();
        ashFilesDoNotMatter();
        ashNoSuchHeights();
        ashFirstOnes();
        ashAtTheEndsOfRows();
        whoByOneToTwelve();
        whoByZeroToTwentySheets();
        whoBits();
        ruleByOneToSixty();
        ruleOfSeveralTheFirst();
        lastsZero();
        lastsByFiles();
        lastsNinetyNine();
        keptByOneToTwentyFour();
        keptInPlaceOfItsOwn();
        turnedByZeroToTen();
        turnedLowestTerms();
        turnedByOneToTwelve();
        drawnByZeroToSixty();
        drawnBySeeds();
        drawnFilesThatAreFewer();
        C.end("OddsBoundsTest");
    }

    private static long[] row(PaperSky x, int office, int i, int n) {
        long[] got = new long[n + 1];
        for (int k = -1; k < n; k++) {
            got[k + 1] = x.ash(office, 0, i, n, k);
        }
        C.due("from n on", x.ash(office, 0, i, n, n), NONE);
        C.due("far from n on", x.ash(office, 0, i, n, MOST), NONE);
        C.due("k below -1", x.ash(office, 0, i, n, -2), Check.BAD);
        return got;
    }

    /** "n HOURS (1 to 6)": an archive above 5 that nothing sinks comes so by all rows. */
    private static void ashOfOneToSix() {
        PaperSky x = Check.skyOf("w2,2,2,2,0;a0,6,0;b0,20,0;");
        Check.tellRow(x, 0, 6, 6, 6, 6, 6, 6, 6);
        int all = 1;
        for (int n = 1; n <= 6; n++) {
            all *= 4;
            C.due(n + " hours", x.ash(0, 0, 0, n, -1), all);
            C.due(n + " hours, the last of the first one", x.ash(0, 0, 0, n, n - 1), 0);
            C.due(n + " hours, from n on", x.ash(0, 0, 0, n, n), NONE);
        }
        C.due("0", x.ash(0, 0, 0, 0, -1), Check.BAD);
        C.due("7", x.ash(0, 0, 0, 7, -1), Check.BAD);
    }

    /** "rows of sheets (0 to 3 ahead of each HOUR)". */
    private static void ashByZeroToThree() {
        PaperSky x = Check.skyOf("w2,2,2,2,1;d0,10,60;b0,10,60;l0,10,60;");
        Check.tellRow(x, 0, 8, 9, 10, 11, 12, 13, 15, 18);
        int[] damp = {NONE, 0, 1, 2, 3, NONE, NONE, NONE};
        int[] bureau = {NONE, 0, NONE, 1, NONE, 2, 3, NONE};
        int[] letters = {NONE, 0, NONE, NONE, 1, NONE, 2, 3};
        for (int i = 0; i < 8; i++) {
            C.dues("a damp one", row(x, 0, i, 1), damp[i] == NONE ? 0 : 1, damp[i]);
            C.dues("a bureau", row(x, 1, i, 1), bureau[i] == NONE ? 0 : 1, bureau[i]);
            C.dues("letters", row(x, 2, i, 1), letters[i] == NONE ? 0 : 1, letters[i]);
        }
    }

    private static void ashFilesDoNotMatter() {
        PaperSky x = Check.skyOf("w2,2,2,2,0;d0,0,0;d0,0,60;d0,0,2;");
        Check.tellRow(x, 0, 3, 6, 9, 12, 15, 18);
        for (int office = 0; office < 3; office++) {
            C.dues("18 sheets", row(x, office, 0, 6), 1, 3, 3, 3, 3, 3, 3);
        }
    }

    private static void ashNoSuchHeights() {
        PaperSky x = Check.skyOf("w2,2,2,2,0;b0,20,60;b0,0,60;d0,19,60;");
        Check.tellRow(x, 0, -1, 21, MOST, LEAST, 20, 19, 0);
        for (int i = 0; i < 4; i++) {
            C.dues("none", row(x, 0, i, 1), 0, NONE);
            C.dues("none", row(x, 1, i, 1), 0, NONE);
        }
        C.dues("20 by all", row(x, 0, 4, 1), 4, 0);
        C.dues("20, then it is no lower", row(x, 0, 4, 2), 0, NONE, NONE);
        C.dues("0 by none", row(x, 1, 6, 1), 1, 0);
        C.dues("20 of 19 by 1 or more", row(x, 2, 4, 1), 3, 1);
        C.dues("fits, then does not", row(x, 2, 4, 3), 0, NONE, NONE, NONE);
    }

    /** "the first one's k-th". */
    private static void ashFirstOnes() {
        PaperSky x = Check.skyOf("w2,2,2,2,3;b0,18,0;l0,1,0;a0,8,0;");
        Check.tellRow(x, 0, 17, 17, 17, 0, 0, 1, 5, 3, 3);
        C.dues("1, then 2, 2", row(x, 0, 0, 3), 3 * 2 * 2, 1, 2, 2);
        C.dues("down by 0, then 0 or 1, then 2 only by 2", row(x, 1, 3, 2), 1 * 2, 0, 0);
        C.dues("5 by all, 3 by 1 or more, 3 by 3", row(x, 2, 6, 3), 4 * 3, 0, 1, 3);
    }

    /** "n ITEMS of a ROW from i on": the last ones of a row of 40, each lane. */
    private static void ashAtTheEndsOfRows() {
        for (int lane = 0; lane <= 2; lane++) {
            PaperSky x = Check.skyOf("w2,2,2,2,0;d0,1,60;");
            x.row(0, lane, 40);
            for (int i = 34; i < 40; i++) {
                x.set(0, i, 1 + (lane < 2 ? 65536 : 0));
            }
            C.dues("the last 6", row(x, 0, 34, 6), 1, 0, 0, 0, 0, 0, 0);
            C.dues("the last", row(x, 0, 39, 1), 1, 0);
            C.due("one beyond", x.ash(0, 0, 35, 6, -1), Check.PLACE);
            C.due("one beyond", x.ash(0, 0, 40, 1, -1), Check.PLACE);
            C.due("another one ahead", x.ash(0, 0, 33, 6, -1), 0);
            C.due("who, the last 12", x.who(0, 0, 28, 12, 0), 0);
            C.due("who, the last 6", x.who(0, 0, 34, 6, 0), 0b111110);
            C.due("who, one beyond", x.who(0, 0, 29, 12, 0), Check.PLACE);
        }
    }

    /** "n ITEMS (1 to 12)". */
    private static void whoByOneToTwelve() {
        PaperSky x = Check.skyOf("w2,2,2,2,1;b0,12,0;");
        Check.tellRow(x, 0, 11, 10, 9, 8, 7, 6, 5, 4, 3, 2, 1, 0, 0);
        for (int n = 1; n <= 12; n++) {
            C.due("all kinds by " + n, x.who(0, 0, 0, n, 0), 0b111110);
            x.set(0, n - 1, 20);
            C.due("the last one does not fit", x.who(0, 0, 0, n, 0), 0);
            x.set(0, n - 1, 12 - n);
        }
        C.due("0", x.who(0, 0, 0, 0, 0), Check.BAD);
        C.due("13", x.who(0, 0, 0, 13, 0), Check.BAD);
    }

    /** "nothing being BURNT but s sheets (0 to 20) ahead of the first HOUR": by what each kind is lifted to. */
    private static void whoByZeroToTwentySheets() {
        for (int height = 0; height <= 20; height++) {
            PaperSky x = Check.skyOf("w2,2,2,2,0;l0," + height + ",0;");
            Check.tellRow(x, 0, 0);
            for (int s = 0; s <= 20; s++) {
                int[] to = {-1, Math.min(20, height + 2 * s), Math.min(20, height + s), Math.min(20, height + 3 * s),
                    Math.min(20, height + s), height > 5 ? height : Math.min(6, height + s)};
                int target = to[1 + (height + s) % 5];
                int due = 0;
                for (int kind = 1; kind <= 5; kind++) {
                    due |= to[kind] == target ? 1 << kind : 0;
                }
                x.set(0, 0, target);
                C.due(s + " sheets from " + height + " to " + target, x.who(0, 0, 0, 1, s), due);
            }
            C.due("-1", x.who(0, 0, 0, 1, -1), Check.BAD);
            C.due("21", x.who(0, 0, 0, 1, 21), Check.BAD);
        }
    }

    /** "KINDS (bits 1 to 5)": what it is itself does not matter, nor do its files. */
    private static void whoBits() {
        PaperSky x = Check.skyOf("w2,2,2,2,2;b0,6,0;f0,6,60;l0,6,1;d0,6,0;a0,6,9;");
        Check.tellRow(x, 0, 10, 8, 4, 13, 7, 5, 3, 1, 0, 0, MOST, -1);
        for (int office = 0; office < 5; office++) {
            C.due("3 sheets: a bureau", x.who(office, 0, 0, 2, 3), 1 << 1);
            C.due("no sheet: any", x.who(office, 0, 2, 1, 0), 0b111110);
            C.due("3 sheets: letters", x.who(office, 0, 3, 1, 3), 1 << 3);
            C.due("3 sheets: a frugal, a damp one", x.who(office, 0, 4, 4, 3), 1 << 2 | 1 << 4);
            C.due("3 sheets: an archive", x.who(office, 0, 2, 1, 3), 1 << 5);
            C.due("none", x.who(office, 0, 8, 1, 0), 0);
            C.due("no such height", x.who(office, 0, 10, 1, 0), 0);
            C.due("no such height", x.who(office, 0, 11, 1, 20), 0);
        }
    }

    /** "behind each of the next n HOURS (1 to 60), most offices are, all counted together". */
    private static void ruleByOneToSixty() {
        PaperSky x = Check.skyOf("w2,2,2,2,3;b9,0,0;b9,5,0;b9,20,0;b9,1,0;b9,9,0;");
        for (int n = 1; n <= 60; n++) {
            C.due("land", x.rule(n, 0), 9);
            C.due("all counted", x.rule(n, 1), 5 * n);
        }
        C.due("0", x.rule(0, 0), Check.BAD);
        C.due("61", x.rule(61, 1), Check.BAD);
        PaperSky y = Check.skyOf("w4,2,2,2,0;b0,1,0;b0,1,0;b8,0,0;");
        C.due("behind 1: two in 2, one in 8", y.rule(1, 0), 2);
        C.due("behind 4: two and four of them in 8", y.rule(4, 0), 8);
        C.due("behind 4", y.rule(4, 1), 6);
        C.due("behind 5: 2 in 9", y.rule(5, 1), 7);
        C.due("behind 60: 112 in 9", y.rule(60, 0), 9);
        C.due("behind 60", y.rule(60, 1), 112);
    }

    /** "of several the first": by lands; now does not count. */
    private static void ruleOfSeveralTheFirst() {
        PaperSky x = Check.skyOf("w2,2,2,2,0;b9,0,0;b8,0,0;b7,0,0;b3,0,0;b4,0,0;");
        C.due("3", x.rule(60, 0), 3);
        C.due("60", x.rule(60, 1), 60);
        for (int land = 0; land <= 9; land++) {
            PaperSky z = Check.skyOf("w2,2,2,2,0;b" + land + ",0,0;b" + (9 - land) + ",0,0;b" + land + ",0,0;b0,0,0;");
            C.due("two in " + land, z.rule(7, 0), land == 9 ? 0 : land);
            C.due("two each hour", z.rule(7, 1), land == 0 ? 21 : 14);
        }
        PaperSky y = Check.skyOf("w1,2,2,2,0;b1,1,0;b9,0,0;");
        C.due("0, where one comes to", y.rule(1, 0), 0);
        C.due("1", y.rule(1, 1), 1);
        C.due("0 and 9 alike", y.rule(60, 0), 0);
    }

    /** "how many HOURS (0 to 99) one is above HEIGHT 0 ...: until it is at 0". */
    private static void lastsZero() {
        for (int sinks = 0; sinks <= 3; sinks++) {
            PaperSky x = Check.skyOf("w2,2,2,2," + sinks + ";b0,0,60;l0,0,0;a0,0,1;");
            for (int office = 0; office < 3; office++) {
                C.due("at 0 now", x.lasts(office), 0);
                C.due("at 0 now", x.kept(office, 1), NONE);
            }
        }
        for (int sinks = 1; sinks <= 3; sinks++) {
            for (int height = 1; height <= 20; height++) {
                PaperSky x = Check.skyOf("w2,2,2,2," + sinks + ";b0," + height + ",0;");
                C.due("without files", x.lasts(0), (height + sinks - 1) / sinks - 1);
            }
        }
    }

    /** "BURNS one sheet, if it has any, ahead of each HOUR in which it would be at 0 else". */
    private static void lastsByFiles() {
        String sorts = "bflda";
        int[] lifts = {2, 1, 3, 1, 1};
        for (int i = 0; i < 5; i++) {
            for (int sinks = 1; sinks <= 3; sinks++) {
                for (int height = 1; height <= 20; height++) {
                    for (int files : new int[] {0, 1, 2, 7, 60}) {
                        PaperSky x = Check.skyOf("w2,2,2,2," + sinks + ";" + sorts.charAt(i) + "0," + height + "," + files + ";");
                        C.due(sorts.charAt(i) + " of " + height + " by " + sinks + ", " + files, x.lasts(0), up(lifts[i], sinks, height, files));
                    }
                }
            }
        }
    }

    /** It burns at 3 at most, where an archive is lifted as a damp one. */
    private static int up(int lift, int sinks, int height, int files) {
        int hours = (height - 1) / sinks;
        int high = height - hours * sinks;
        int left = files;
        while (left > 0 && hours < 99 && high + lift > sinks) {
            high += lift - sinks;
            left--;
            hours++;
            int free = (high - 1) / sinks;
            hours += free;
            high -= free * sinks;
        }
        return Math.min(99, hours);
    }

    private static PaperSky lettersWith(int files) {
        PaperSky x = Check.skyOf("w2,2,2,2,3;l0,3,60;l0,6,60;");
        x.send(1, 0, files - 60);
        return x;
    }

    /** "(0 to 99)": one of letters that burns a sheet each hour. */
    private static void lastsNinetyNine() {
        C.due("97", lettersWith(97).lasts(0), 97);
        C.due("98", lettersWith(98).lasts(0), 98);
        C.due("99", lettersWith(99).lasts(0), 99);
        PaperSky x = Check.skyOf("w2,2,2,2,3;l0,6,60;l0,6,60;");
        x.send(1, 0, 38);
        C.due("one hour for nothing, 98", x.lasts(0), 99);
        x.send(1, 0, 1);
        C.due("one hour for nothing, 99", x.lasts(0), 99);
        PaperSky y = Check.skyOf("w2,2,2,2,0;b0,1,0;b0,20,60;");
        C.due("for good", y.lasts(0), 99);
        C.due("for good", y.lasts(1), 99);
        C.due("for good", y.kept(0, 24), 0);
    }

    /** "with which it LASTS n HOURS (1 to 24) or more; NONE". */
    private static void keptByOneToTwentyFour() {
        PaperSky x = Check.skyOf("w2,2,2,2,3;l0,3,0;l0,6,0;b0,3,0;d0,20,0;");
        for (int n = 1; n <= 24; n++) {
            C.due("a sheet each hour", x.kept(0, n), n);
            C.due("one hour for nothing", x.kept(1, n), n - 1);
            C.due("3, 2, 1, then it is down", x.kept(2, n), n <= 2 ? n : NONE);
            C.due("6 hours for nothing, then down", x.kept(3, n), n <= 6 ? 0 : NONE);
        }
        C.due("0", x.kept(0, 0), Check.BAD);
        C.due("25", x.kept(0, 25), Check.BAD);
    }

    /** "the least number of FILES (0 to 60, in place of its own)". */
    private static void keptInPlaceOfItsOwn() {
        for (int files : new int[] {0, 1, 23, 60}) {
            PaperSky x = Check.skyOf("w2,2,2,2,1;d0,1," + files + ";");
            C.due("1", x.kept(0, 1), 1);
            C.due("24", x.kept(0, 24), 24);
            C.due("its own", x.lasts(0), files);
            C.due("its own stay", x.office(0, 2), files);
        }
    }

    private static void odds(PaperSky x, int land, int n, int p, long above, long below) {
        String call = "turned(0, " + land + ", " + n + ", " + p + ")";
        C.due(call + " above", x.turned(0, land, n, p, 0), above);
        C.due(call + " below", x.turned(0, land, n, p, 1), below);
    }

    /** "TURNED by p of 10 (0 to 10)"; "told as two numbers in lowest terms (0 is 0 by 1)". */
    private static void turnedByZeroToTen() {
        long[][] turned = {{0, 1}, {1, 10}, {1, 5}, {3, 10}, {2, 5}, {1, 2}, {3, 5}, {7, 10}, {4, 5}, {9, 10}, {1, 1}};
        PaperSky x = Check.skyOf("w3,2,2,2,0;b5,1,0;");
        for (int p = 0; p <= 10; p++) {
            odds(x, 4, 1, p, turned[p][0], turned[p][1]);
            odds(x, 6, 1, p, turned[10 - p][0], turned[10 - p][1]);
            odds(x, 5, 1, p, 0, 1);
        }
        C.due("-1", x.turned(0, 4, 1, -1, 0), Check.BAD);
        C.due("11", x.turned(0, 4, 1, 11, 1), Check.BAD);
        PaperSky y = Check.skyOf("w3,2,2,2,0;b5,0,0;");
        for (int p = 0; p <= 10; p++) {
            odds(y, 5, 12, p, 1, 1);
            odds(y, 4, 12, p, 0, 1);
        }
        PaperSky z = Check.skyOf("w2,2,2,2,0;b5,9,0;");
        odds(z, 5, 12, 3, 1, 1);
    }

    /** From 20 by 3: an hour in band 3, two in 2, one in 1, two in 0. */
    private static void turnedLowestTerms() {
        // 4, by 2 to 6, by 1 to 7, by 1 and 1 to 9; band 2 carries none.
        PaperSky x = Check.skyOf("w3,3,2,4,3;b4,20,0;");
        odds(x, 9, 6, 3, 343, 1000);
        odds(x, 9, 6, 1, 729, 1000);
        odds(x, 9, 6, 5, 1, 8);
        // 4, by 2 to 6, by 1 and 1 to 8, by 2 to 9 at most, and there by 1 and 1.
        PaperSky y = Check.skyOf("w3,4,3,4,3;b4,20,0;");
        odds(y, 9, 6, 3, 2401, 10000);
        odds(y, 7, 6, 3, 7 * 7 * 7 * 3, 10000);
        odds(y, 0, 6, 10, 1, 1);
        odds(y, 9, 6, 0, 1, 1);
        odds(y, 5, 6, 0, 0, 1);
    }

    /** "for n HOURS (1 to 12; all alike)": LAND 0 at least, 9 at most, each way. */
    private static void turnedByOneToTwelve() {
        PaperSky x = Check.skyOf("w3,2,2,2,0;b5,1,0;");
        for (int n = 1; n <= 12; n++) {
            odds(x, Math.min(9, 5 + n), n, 2, 4, 5);
            odds(x, Math.max(0, 5 - n), n, 2, 1, 5);
            odds(x, 5, n, 2, 0, 1);
        }
        C.due("0", x.turned(0, 5, 0, 2, 0), Check.BAD);
        C.due("13", x.turned(0, 5, 13, 2, 0), Check.BAD);
        PaperSky y = Check.skyOf("w0,2,2,2,0;b0,1,0;");
        odds(y, 0, 1, 4, 3, 5);
        odds(y, 2, 1, 4, 2, 5);
    }

    /** "HOURS of n (0 to 60)": the rests by 4 of SEED 1's and 999999's X, added up to its 60 FILES. */
    private static void drawnByZeroToSixty() {
        String first = "311220023101023331003111013203120321313130101103211100020023";
        String last = "003302020212022011322332231022230130201131230023311222010311";
        drawn(1, first);
        drawn(999999, last);
    }

    private static void drawn(int seed, String sheets) {
        PaperSky x = Check.skyOf("w2,2,2,2,0;d7,0,60;");
        int sum = 0;
        for (int n = 0; n <= 60; n++) {
            sum += n == 0 ? 0 : sheets.charAt(n - 1) - '0';
            C.due("seed " + seed + ", " + n + " hours", x.drawn(n, seed, 0), Math.min(60, sum));
            C.due("its land", x.drawn(n, seed, 1), 7);
        }
        C.due("-1", x.drawn(-1, seed, 0), Check.BAD);
        C.due("61", x.drawn(61, seed, 1), Check.BAD);
        C.due("nothing is burnt", x.count(4), 0);
    }

    /** "a SEED (1 to 999999)". */
    private static void drawnBySeeds() {
        PaperSky x = Check.skyOf("w2,2,2,2,0;d7,0,60;");
        C.due("0", x.drawn(1, 0, 0), Check.BAD);
        C.due("1: 16807", x.drawn(1, 1, 0), 3);
        C.due("2: 33614", x.drawn(1, 2, 0), 2);
        C.due("999998: 1774580857", x.drawn(1, 999998, 0), 1);
        C.due("999999: 1774597664", x.drawn(1, 999999, 0), 0);
        C.due("1000000", x.drawn(1, 1000000, 0), Check.BAD);
        // By 5: 2, 4, 3, 3, 0, 2 of SEED 1, by 3, 1, 1, 2, 2, 0 sheets.
        PaperSky y = Check.skyOf("w3,2,2,2,0;d0,0,9;d0,0,9;d0,0,9;d0,0,9;d0,0,9;");
        int[] lands = {0, 1, 3, 6, 9, 13, 17};
        int[] burnt = {0, 3, 4, 5, 7, 9, 9};
        for (int n = 0; n <= 6; n++) {
            C.due(n + " hours: lands", y.drawn(n, 1, 1), lands[n]);
            C.due(n + " hours: burnt", y.drawn(n, 1, 0), burnt[n]);
        }
    }

    /** "or its FILES, if they are fewer: BURNT on these". */
    private static void drawnFilesThatAreFewer() {
        for (int files = 0; files <= 5; files++) {
            PaperSky x = Check.skyOf("w3,2,2,2,0;d0,0," + files + ";");
            C.due("3 of " + files, x.drawn(1, 1, 0), Math.min(3, files));
            C.due("up by one", x.drawn(1, 1, 1), files == 0 ? 0 : 1);
            C.due("3 and 1 of " + files, x.drawn(2, 1, 0), Math.min(4, files));
        }
        PaperSky y = Check.skyOf("w2,2,2,2,0;d0,0,20;");
        y.burn(0, 15);
        C.due("what was burnt before does not count", y.drawn(1, 1, 0), 3);
        C.due("no more than is left", y.drawn(60, 1, 0), 5);
    }
}
