/** The boundary cases of promises 6 to 8, sentence by sentence: the tape, its tokens, its faults. */
public final class TextBoundsTest {
    private static final Check C = new Check();
    private static final String LAW = "w4,4,4,4,3;", OFFICE = "b9,20,60;";
    /** The numbers of a law with one office: where each stands in PLAIN, and the most that it may be. */
    private static final String PLAIN = "w2,2,2,2,0;b0,0,0;";
    private static final int[] NUMBERS = {1, 3, 5, 7, 9, 12, 14, 16};
    private static final int[] MOSTS = {4, 4, 4, 4, 3, 9, 20, 60};

    public static void main(String[] args) {
        aHundredBytes();
        eachByteAtEachPlace();
        eachNumberAtItsEnds();
        threeFigures();
        theEnd();
        anOfficeMore();
        ofOneTokenTheLeast();
        theFirstToken();
        eachLetterByItself();
        standsInPlaceOfTheOneBefore();
        latestFault();
        C.end("TextBoundsTest");
    }

    private static void good(String text, int offices) {
        PaperSky x = new PaperSky();
        C.due("'" + text + "'", Check.tell(x, text), offices);
        C.due("'" + text + "': offices", x.count(1), offices);
        C.due("'" + text + "': no fault", x.fault(), 0);
        C.due("'" + text + "': the tape is empty", x.count(7), 0);
    }

    private static void faulty(String text, int number, int place) {
        PaperSky x = new PaperSky();
        C.due("'" + text + "': place", Check.tell(x, text), -1000100 - place);
        C.due("'" + text + "': fault", x.fault(), number);
        C.due("'" + text + "': no sky", x.count(1), 0);
        C.due("'" + text + "': the tape is empty", x.count(7), 0);
    }

    /** "THE TAPE has at most 100 bytes, that come one by one"; "A byte (0 to 255) ... how many it has. BAD; FULL." */
    private static void aHundredBytes() {
        PaperSky x = new PaperSky();
        for (int letter = 0; letter <= 255; letter++) {
            C.due("byte " + letter, x.feed(letter), letter < 100 ? letter + 1 : Check.FULL);
        }
        C.due("100", x.count(7), 100);
        C.due("256", x.feed(256), Check.BAD);
        C.due("-1", x.feed(-1), Check.BAD);
        C.due("byte 0 is no token", x.sky(), -1000100);
        C.due("empty then", x.count(7), 0);
        for (int letter = 100; letter <= 255; letter++) {
            C.due("byte " + letter, x.feed(letter), letter < 200 ? letter - 99 : Check.FULL);
        }
        // A text as long as one can be, and what is on the tape behind it up to its end.
        String longest = "w00,01,02,03,03;" + "b09,20,60;f08,00,00;l07,01,01;d06,05,09;a05,06,59;";
        good(longest, 5);
        StringBuilder full = new StringBuilder(longest);
        while (full.length() < 100) {
            full.append(';');
        }
        faulty(full.toString(), 1, 66);
        PaperSky y = new PaperSky();
        Check.feedAll(y, full.toString());
        C.due("the 101st is not on it", y.feed('b'), Check.FULL);
        C.due("read as it is", y.sky(), -1000166);
    }

    /** "TOKENS: letters a to z (each by itself), NUMBERS (figures, 2 at most), SIGNS , and ; nothing else." */
    private static void eachByteAtEachPlace() {
        for (int at = 0; at < PLAIN.length(); at++) {
            for (int letter = 0; letter <= 255; letter++) {
                String text = PLAIN.substring(0, at) + (char) letter + PLAIN.substring(at + 1);
                char was = PLAIN.charAt(at);
                if (letter == was) {
                    good(text, 1);
                } else if (was == 'w') {
                    faulty(text, 1, at);
                } else if (was == 'b') {
                    sortAt(text, at, letter);
                } else if (was == ',' || was == ';') {
                    signAt(text, at, letter);
                } else {
                    numberAt(text, at, letter);
                }
            }
        }
    }

    private static boolean isFigure(int letter) {
        return "0123456789".indexOf(letter) >= 0;
    }

    private static void sortAt(String text, int at, int letter) {
        if ("flda".indexOf(letter) >= 0) {
            good(text, 1);
        } else {
            faulty(text, 1, at);
        }
    }

    /** A figure in place of a sign makes the number ahead of it longer. */
    private static void signAt(String text, int at, int letter) {
        if (!isFigure(letter)) {
            faulty(text, 1, at);
        } else if (at + 1 < text.length() && isFigure(text.charAt(at + 1))) {
            faulty(text, 1, at - 1);
        } else if (at == 10) {
            faulty(text, letter > '3' ? 2 : 1, letter > '3' ? at - 1 : at + 1);
        } else {
            faulty(text, 1, at + 1);
        }
    }

    private static void numberAt(String text, int at, int letter) {
        int most = 0;
        for (int i = 0; i < NUMBERS.length; i++) {
            most = NUMBERS[i] == at ? MOSTS[i] : most;
        }
        if (!isFigure(letter)) {
            faulty(text, 1, at);
        } else if (letter - '0' > most) {
            faulty(text, 2, at);
        } else {
            good(text, 1);
        }
    }

    /** "2 a NUMBER that is not as told": each at 0, at its most, one beyond, and at 99. */
    private static void eachNumberAtItsEnds() {
        for (int i = 0; i < NUMBERS.length; i++) {
            String ahead = PLAIN.substring(0, NUMBERS[i]);
            String behind = PLAIN.substring(NUMBERS[i] + 1);
            good(ahead + "0" + behind, 1);
            good(ahead + "00" + behind, 1);
            good(ahead + MOSTS[i] + behind, 1);
            faulty(ahead + (MOSTS[i] + 1) + behind, 2, NUMBERS[i]);
            faulty(ahead + "99" + behind, 2, NUMBERS[i]);
            faulty(ahead + "-1" + behind, 1, NUMBERS[i]);
            faulty(ahead + behind, 1, NUMBERS[i]);
            if (MOSTS[i] < 9) {
                faulty(ahead + "0" + (MOSTS[i] + 1) + behind, 2, NUMBERS[i]);
            }
            if (MOSTS[i] < 10) {
                good(ahead + "0" + MOSTS[i] + behind, 1);
            }
        }
        // Of each office: the first as well as the fifth.
        StringBuilder text = new StringBuilder(LAW);
        for (int office = 0; office < 5; office++) {
            faulty(text + "b10,20,60;", 2, text.length() + 1);
            faulty(text + "b9,21,60;", 2, text.length() + 3);
            faulty(text + "b9,20,61;", 2, text.length() + 6);
            text.append(OFFICE);
            good(text.toString(), office + 1);
        }
    }

    /** "a run of three figures, at its first": of as many as there are, whatever the first two make. */
    private static void threeFigures() {
        String[] runs = {"000", "001", "100", "999", "0000", "1234567890"};
        for (int at : NUMBERS) {
            for (String run : runs) {
                faulty(PLAIN.substring(0, at) + run + PLAIN.substring(at + 1), 1, at);
                faulty(PLAIN.substring(0, at) + run, 1, at);
            }
        }
        faulty("000", 1, 0);
        faulty(LAW + "000", 1, 11);
        faulty("w" + "0".repeat(99), 1, 1);
    }

    /** "the end: how many bytes there are": of every beginning of a text. */
    private static void theEnd() {
        String text = "w04,3,02,1,00;f09,20,60;l1,02,3;";
        for (int n = 0; n < text.length(); n++) {
            String beginning = text.substring(0, n);
            if (beginning.endsWith("60;")) {
                good(beginning, 1);
            } else {
                faulty(beginning, 1, n);
            }
        }
        good(text, 2);
        theEndAheadOfOlderBytes(text);
    }

    /** What an earlier, longer text left behind the end is no part of the tape. */
    private static void theEndAheadOfOlderBytes(String text) {
        for (int n = 0; n < text.length(); n++) {
            for (String older : new String[] {text, "9".repeat(100), text.substring(0, n) + text.charAt(n)}) {
                PaperSky x = new PaperSky();
                Check.tell(x, older);
                boolean whole = text.substring(0, n).endsWith("60;");
                C.due("the first " + n, Check.tell(x, text.substring(0, n)), whole ? 1 : -1000100 - n);
            }
        }
    }

    /** "3 an office more than there is room for (its letter)"; "OFFICES 0 .. 4, 5 at most". */
    private static void anOfficeMore() {
        String five = LAW + OFFICE.repeat(5);
        good(five, 5);
        for (char sort : "bflda".toCharArray()) {
            faulty(five + sort, 3, 56);
            faulty(five + sort + "0,0,0;", 3, 56);
            faulty(five + sort + "99,", 3, 56);
            faulty(five + sort + "?", 3, 56);
        }
        faulty(five + OFFICE.repeat(3), 3, 56);
    }

    /** "of one TOKEN the least": 1 ahead of 2 and of 3. */
    private static void ofOneTokenTheLeast() {
        String five = LAW + OFFICE.repeat(5);
        faulty("99", 1, 0);
        faulty(LAW + "99", 1, 11);
        faulty(LAW + OFFICE + "99", 1, 20);
        faulty(five + "99", 1, 56);
        faulty(five + "w", 1, 56);
        faulty(five + "c", 1, 56);
        faulty(five + "z", 1, 56);
        faulty(five + ",", 1, 56);
        faulty(five + "\0", 1, 56);
        faulty(five + "B", 1, 56);
        faulty("w999", 1, 1);
    }

    /** "FAULTS, the first TOKEN that has one". */
    private static void theFirstToken() {
        faulty("w5,5,5,5,5;", 2, 1);
        faulty("w4,5,999,?", 2, 3);
        faulty("w4,999,5,?", 1, 3);
        faulty("w4?5", 1, 2);
        faulty(LAW + "b10,21,61;", 2, 12);
        faulty(LAW + "b9,21,61?", 2, 14);
        faulty(LAW + "b9,20,61?", 2, 17);
        faulty(LAW + "b9,20,60?99", 1, 19);
        faulty(LAW + OFFICE.repeat(4) + "b9,20,61;" + OFFICE, 2, 53);
    }

    private static void eachLetterByItself() {
        faulty("ww2,2,2,2,0;b0,0,0;", 1, 1);
        faulty(LAW + "bb9,20,60;", 1, 12);
        faulty(LAW + "bf9,20,60;", 1, 12);
        faulty(LAW + LAW, 1, 11);
        faulty(OFFICE, 1, 0);
        faulty(LAW + OFFICE + LAW, 1, 20);
        faulty(LAW + ";" + OFFICE, 1, 11);
        faulty(LAW + OFFICE + ";", 1, 20);
        faulty(LAW + "\n" + OFFICE, 1, 11);
        faulty(LAW + OFFICE + " ", 1, 20);
        for (char c = 'a'; c <= 'z'; c++) {
            if ("bflda".indexOf(c) < 0) {
                faulty(LAW + c + "9,20,60;", 1, 11);
                faulty(LAW + OFFICE + c + "9,20,60;", 1, 20);
            } else {
                good(LAW + c + "9,20,60;", 1);
            }
        }
    }

    /** "stands in place of the one before: HOUR 0, nothing is BURNT; no ACT can be undone"; "The tape, empty then". */
    private static void standsInPlaceOfTheOneBefore() {
        PaperSky x = Check.skyOf(LAW + OFFICE.repeat(5));
        x.hours(24);
        x.burn(4, 20);
        x.burn(0, 20);
        C.due("5", Check.tell(x, "w0,1,2,3,1;a4,5,6;d0,0,0;"), 2);
        C.due("hour", x.count(3), 0);
        C.due("burnt", x.count(4), 0);
        C.due("acts", x.count(6), 0);
        C.due("undo", x.undo(), Check.STATE);
        C.due("sinks", x.count(2), 1);
        C.due("above 0", x.count(5), 1);
        C.dues("0", Check.one(x, 0), 4, 5, 6, 0);
        C.dues("1", Check.one(x, 1), 0, 0, 0, 0);
        C.due("kind", x.kind(0), 5);
        C.due("kind", x.kind(1), 4);
        C.due("no third", x.office(2, 0), Check.BAD);
        C.due("none in 9", x.land(9), 0);
        C.due("the same once more", Check.tell(x, "w0,1,2,3,1;a4,5,6;d0,0,0;"), 2);
        for (int band = 0; band < 4; band++) {
            C.due("wind " + band, x.wind(band, 4), band);
        }
        C.due("an empty tape has a fault", x.sky(), -1000100);
        C.due("the sky stays", x.count(1), 2);
        C.due("its acts stay", x.count(6), 4);
    }

    /** "The number of the latest FAULT; 0 before one." */
    private static void latestFault() {
        PaperSky x = new PaperSky();
        C.due("none", x.fault(), 0);
        Check.tell(x, LAW + OFFICE);
        C.due("none by a sky", x.fault(), 0);
        Check.tell(x, "w9");
        C.due("2", x.fault(), 2);
        C.due("2 yet", x.fault(), 2);
        Check.tell(x, LAW + OFFICE.repeat(6));
        C.due("3", x.fault(), 3);
        Check.tell(x, LAW + OFFICE);
        C.due("3, the latest, behind a sky too", x.fault(), 3);
        x.feed(256);
        x.feed('w');
        C.due("a byte refused is none", x.fault(), 3);
        C.due("the end", x.sky(), -1000101);
        C.due("1", x.fault(), 1);
        x.image(0);
        x.restore(0);
        C.due("1 yet", x.fault(), 1);
    }
}
