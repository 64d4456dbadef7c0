/** Promises 1 and 6 to 8: a new object, the tape, its reading and its faults. */
public final class TextTest {
    private static final Check C = new Check();
    private static final String LAW = "w0,1,2,3,3;";

    public static void main(String[] args) {
        newObject();
        fed();
        read();
        faultsOfLaw();
        faultsOfOffices();
        stays();
        shorterBehindLonger();
        C.end("TextTest");
    }

    private static void newObject() {
        PaperSky x = new PaperSky();
        for (int what = 0; what <= 7; what++) {
            C.due("count " + what, x.count(what), 0);
        }
        C.due("fault", x.fault(), 0);
        C.due("status", x.status(), 0);
        C.due("trace", x.trace(0), Check.NONE);
        C.due("no sky to undo", x.undo(), Check.STATE);
        C.due("no office", x.office(0, 0), Check.BAD);
        C.due("no sky ahead of BAD: hours", x.hours(0), Check.STATE);
        C.due("no sky ahead of BAD: wind", x.wind(4, 9), Check.STATE);
        C.due("no sky ahead of BAD: land", x.land(10), Check.STATE);
        C.due("no sky ahead of BAD: over", x.over(10, 61), Check.STATE);
        C.due("no sky ahead of BAD: petition", x.petition(10, 9, 0, 9), Check.STATE);
        C.due("no sky ahead of BAD: rule", x.rule(0, 2), Check.STATE);
        C.due("no sky ahead of BAD: drawn", x.drawn(-1, 0, 2), Check.STATE);
        C.due("BAD ahead of no sky: image", x.image(2), Check.BAD);
        C.due("no sky: image", x.image(1), Check.STATE);
    }

    private static void fed() {
        PaperSky x = new PaperSky();
        C.due("-1", x.feed(-1), Check.BAD);
        C.due("256", x.feed(256), Check.BAD);
        C.due("0", x.feed(0), 1);
        C.due("255", x.feed(255), 2);
        for (int i = 3; i <= 100; i++) {
            C.due("byte " + i, x.feed('w'), i);
        }
        C.due("no room", x.feed('w'), Check.FULL);
        C.due("BAD ahead of FULL", x.feed(256), Check.BAD);
        C.due("100 on it", x.count(7), 100);
        C.due("read", x.sky(), -1000100);
        C.due("empty then", x.count(7), 0);
        C.due("room again", x.feed('w'), 1);
    }

    private static void read() {
        PaperSky x = new PaperSky();
        C.due("one office", Check.tell(x, "w4,0,2,1,0;b0,0,0;"), 1);
        C.due("five", Check.tell(x, LAW + "b9,20,60;f00,00,00;l05,5,07;d1,10,11;a2,3,4;"), 5);
        C.dues("0", Check.one(x, 0), 9, 20, 60, 0);
        C.dues("1", Check.one(x, 1), 0, 0, 0, 0);
        C.dues("2", Check.one(x, 2), 5, 5, 7, 0);
        C.dues("3", Check.one(x, 3), 1, 10, 11, 0);
        C.dues("4", Check.one(x, 4), 2, 3, 4, 0);
        int[] kinds = {1, 2, 3, 4, 5};
        for (int o = 0; o < 5; o++) {
            C.due("kind " + o, x.kind(o), kinds[o]);
        }
        C.due("sinks", x.count(2), 3);
        for (int band = 0; band < 4; band++) {
            C.due("wind " + band, x.wind(band, 2), band);
        }
        C.due("fault stays 0", x.fault(), 0);
        x.hours(2);
        C.due("a new sky", Check.tell(x, "w2,2,2,2,1;d3,4,5;"), 1);
        C.due("its hour", x.count(3), 0);
        C.due("no act", x.count(6), 0);
        C.due("no undo", x.undo(), Check.STATE);
        C.due("no office 1", x.office(1, 0), Check.BAD);
        C.due("sinks anew", x.count(2), 1);
        C.dues("0 anew", Check.one(x, 0), 3, 4, 5, 0);
    }

    private static void fault(String text, int number, int place) {
        PaperSky x = new PaperSky();
        C.due("'" + text + "' place", Check.tell(x, text), -1000100 - place);
        C.due("'" + text + "' number", x.fault(), number);
        C.due("'" + text + "' no sky", x.count(1), 0);
        C.due("'" + text + "' tape", x.count(7), 0);
    }

    private static void faultsOfLaw() {
        fault("", 1, 0);
        fault("b", 1, 0);
        fault("W", 1, 0);
        fault(" w", 1, 0);
        fault("12", 1, 0);
        fault("w", 1, 1);
        fault("ww", 1, 1);
        fault("w,", 1, 1);
        fault("w123,", 1, 1);
        fault("w1234567", 1, 1);
        fault("w000,0,0,0,0;", 1, 1);
        fault("w5", 2, 1);
        fault("w05", 2, 1);
        fault("w99?", 2, 1);
        fault("w4", 1, 2);
        fault("w4;", 1, 2);
        fault("w04 ", 1, 3);
        fault("w4,4,4,5,0;", 2, 7);
        fault("w4,4,4,4,4;", 2, 9);
        fault("w4,4,4,4,3,", 1, 10);
        fault("w4,4,4,4,3", 1, 10);
        fault("w4,4,4,4,3;", 1, 11);
        fault("w4,4,4,4,3;w", 1, 11);
        fault("w4,4,4,4,3;123", 1, 11);
        fault("w4,4,4,4,3;;", 1, 11);
    }

    private static void faultsOfOffices() {
        fault(LAW + "c0,0,0;", 1, 11);
        fault(LAW + "B0,0,0;", 1, 11);
        fault(LAW + "b10,0,0;", 2, 12);
        fault(LAW + "b9,21,0;", 2, 14);
        fault(LAW + "b9,20,61;", 2, 17);
        fault(LAW + "b9,20,060;", 1, 17);
        fault(LAW + "b9,20,60", 1, 19);
        fault(LAW + "b9,20,60,", 1, 19);
        fault(LAW + "b9,20;", 1, 16);
        fault(LAW + "b9,20,60;x", 1, 20);
        fault(LAW + "b9,20,60;f", 1, 21);
        fault(LAW + "b9,20,60;\u00e9", 1, 20);
        fault(LAW + "b9,20,60; ", 1, 20);
        String five = LAW + "b0,0,0;f0,0,0;l0,0,0;d0,0,0;a0,0,0;";
        fault(five + "b0,0,0;", 3, 46);
        fault(five + "a", 3, 46);
        fault(five + "b10", 3, 46);
        fault(five + "c", 1, 46);
        fault(five + ";", 1, 46);
        fault(five + "7", 1, 46);
        String long5 = "w00,00,00,00,00;b00,00,00;b00,00,00;b00,00,00;b00,00,00;b00,00,00;";
        C.due("two figures each", Check.tell(new PaperSky(), long5), 5);
    }

    /** Bytes of an earlier text must not be read behind the end of a shorter one. */
    private static void shorterBehindLonger() {
        String text = LAW + "b9,20,60;f1,12,34;";
        for (int n = 0; n < text.length(); n++) {
            PaperSky x = Check.skyOf(text);
            boolean whole = n == (LAW + "b9,20,60;").length();
            C.due("the first " + n, Check.tell(x, text.substring(0, n)), whole ? 1 : -1000100 - n);
            C.due("offices", x.count(1), whole ? 1 : 2);
        }
        PaperSky x = Check.skyOf("w2,2,2,2,0;b1,0,0;b2,0,0;b3,0,0;b4,9,0;b5,9,9;");
        x.burn(4, 3);
        Check.tell(x, "w2,2,2,2,0;b9,0,0;");
        C.due("lands of one", x.drawn(0, 1, 1), 9);
        C.due("burnt", x.count(4), 0);
        C.due("above 0", x.count(5), 0);
        C.due("none in 5", x.land(5), 0);
    }

    private static void stays() {
        PaperSky x = Check.skyOf("w2,2,2,2,1;b1,9,5;");
        x.burn(0, 1);
        x.hours(1);
        C.due("a faulty text", Check.tell(x, "w2,2,2,2,1;b1,9,99;"), -1000116);
        C.dues("all stays", Check.one(x, 0), 1, 10, 4, 1);
        C.due("acts stay", x.count(6), 2);
        C.due("hour stays", x.count(3), 1);
        C.due("sinks stay", x.count(2), 1);
        C.due("undo goes on", x.undo(), 1);
        C.due("number", x.fault(), 2);
        Check.tell(x, "w2,2,2,2,1;b1,9,5;");
        C.due("a good one keeps the latest fault", x.fault(), 2);
        Check.tell(x, "x");
        C.due("the latest", x.fault(), 1);
    }
}
