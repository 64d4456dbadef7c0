/** Promises 31 to 34: kinds, asks and the trace of their bodies. */
public final class AsksTest {
    private static final Check C = new Check();
    // Heights 4, 5, 6, 7, 8; files 10, 20, 30, 40, 50.
    private static final String ALL = "w2,2,2,2,0;b0,4,10;f0,5,20;l0,6,30;d0,7,40;a0,8,50;";

    public static void main(String[] args) {
        kinds();
        sizes();
        marks();
        traceKept();
        refused();
        C.end("AsksTest");
    }

    private static void kinds() {
        PaperSky x = Check.skyOf(ALL);
        boolean[][] such = {
            {true, true, false, false, false, false},
            {true, true, true, false, false, false},
            {true, true, false, true, false, false},
            {true, false, false, false, true, false},
            {true, false, false, false, true, true}};
        for (int one = 0; one < 5; one++) {
            C.due("kind", x.kind(one), one + 1);
            for (int kind = 0; kind < 6; kind++) {
                C.due("as(" + one + ", " + kind + ")", x.as(one, kind), such[one][kind] ? one : Check.KIND);
                C.due("status", x.status(), such[one][kind] ? 0 : 3);
            }
        }
    }

    private static void asked(PaperSky x, int one, int what, long answer, long... bodies) {
        String call = "ask(" + one + ", " + what + ")";
        C.due(call, x.ask(one, what), answer);
        for (int i = 0; i < 16; i++) {
            C.due(call + " trace " + i, x.trace(i), i < bodies.length ? bodies[i] : Check.NONE);
        }
    }

    private static void sizes() {
        PaperSky x = Check.skyOf(ALL);
        asked(x, 0, 0, 10 + (0 + 4), 11, 10, 21, 20);
        asked(x, 1, 0, -(20 + 2 * (1 + 5)), 12, 11, 10, 24, 21, 20);
        asked(x, 2, 0, 30 + (2 + 6 - 1000), 11, 10, 22, 21, 20);
        asked(x, 3, 0, 40 - 100, 13, 10);
        asked(x, 4, 0, 2 * (50 - 100), 14, 13, 10);
    }

    private static void marks() {
        PaperSky x = Check.skyOf(ALL);
        asked(x, 0, 1, 0 + 4, 21, 20);
        asked(x, 1, 1, 2 * (1 + 5), 24, 21, 20);
        asked(x, 2, 1, 2 + 6 - 1000, 22, 21, 20);
        asked(x, 3, 1, 3 - (40 - 100), 23, 20, 13, 10);
        asked(x, 4, 1, 4 - 2 * (50 - 100), 23, 20, 14, 13, 10);
        x.burn(0, 2);
        asked(x, 0, 0, 8 + 8, 11, 10, 21, 20);
    }

    private static void traceKept() {
        PaperSky x = Check.skyOf(ALL);
        x.ask(3, 0);
        C.due("BAD", x.ask(5, 0), Check.BAD);
        C.due("BAD leaves the trace", x.trace(0), 13);
        x.hours(1);
        x.undo();
        Check.tell(x, "w2,2,2,2,0;b0,4,10;");
        C.due("other calls leave it", x.trace(1), 10);
        C.due("its end", x.trace(2), Check.NONE);
        C.due("-1", x.trace(-1), Check.NONE);
        C.due("least", x.trace(Integer.MIN_VALUE), Check.NONE);
        C.due("16", x.trace(16), Check.NONE);
        C.due("most", x.trace(Integer.MAX_VALUE), Check.NONE);
    }

    private static void refused() {
        PaperSky x = Check.skyOf("w2,2,2,2,0;b0,4,10;");
        C.due("kind of 1", x.kind(1), Check.BAD);
        C.due("kind of -1", x.kind(-1), Check.BAD);
        C.due("as, office 1", x.as(1, 0), Check.BAD);
        C.due("as 6", x.as(0, 6), Check.BAD);
        C.due("as -1", x.as(0, -1), Check.BAD);
        C.due("ask, office -1", x.ask(-1, 0), Check.BAD);
        C.due("ask 2", x.ask(0, 2), Check.BAD);
        C.due("ask -1", x.ask(0, -1), Check.BAD);
        C.due("constants", PaperSky.NONE, -1000000);
        C.due("constants", PaperSky.BAD, -1000001);
        C.due("constants", PaperSky.STATE, -1000002);
        C.due("constants", PaperSky.FULL, -1000003);
    }
}
