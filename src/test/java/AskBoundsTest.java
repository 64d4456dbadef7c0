/** The boundary cases of promises 31 to 36, sentence by sentence; their refusals stand in RefusalsTest. */
public final class AskBoundsTest {
    private static final Check C = new Check();
    private static final String SORTS = "bflda";

    public static void main(String[] args) {
        kindsAsTold();
        takenAsKinds();
        sizesAtTheEnds();
        asksFollowTheSky();
        traceOfEach();
        traceIsEmptyAhead();
        traceOutlivesOthers();
        countsAtTheirEnds();
        countsWithoutSky();
        statusAtFirst();
        statusOfEachFinding();
        statusOfCallsWithoutARow();
        C.end("AskBoundsTest");
    }

    /** "The KIND of a OFFICE, as told (1 to 5)": whatever its place, and whatever is done to it. */
    private static void kindsAsTold() {
        for (int at = 0; at < 5; at++) {
            StringBuilder text = new StringBuilder("w2,2,2,2,1;");
            for (int i = 0; i < 5; i++) {
                text.append(SORTS.charAt((at + i) % 5)).append("0,20,60;");
            }
            PaperSky x = Check.skyOf(text.toString());
            x.hours(24);
            x.burn(at, 20);
            for (int i = 0; i < 5; i++) {
                C.due("kind of " + i, x.kind(i), (at + i) % 5 + 1);
            }
            C.due("5", x.kind(5), Check.BAD);
            C.due("-1", x.kind(-1), Check.BAD);
        }
        PaperSky x = Check.skyOf("w2,2,2,2,1;a0,0,0;");
        C.due("the only one", x.kind(0), 5);
        C.due("no second", x.kind(1), Check.BAD);
    }

    /** "A OFFICE is taken as one of a KIND (0 .. 5): its number. BAD; KIND: it is no such one." */
    private static void takenAsKinds() {
        String[] such = {"01", "012", "013", "04", "045"};
        PaperSky x = Check.skyOf("w2,2,2,2,1;a0,0,0;d0,0,0;l0,0,0;f0,0,0;b0,0,0;");
        for (int one = 0; one < 5; one++) {
            for (int kind = 0; kind <= 5; kind++) {
                boolean is = such[4 - one].indexOf('0' + kind) >= 0;
                C.due("as(" + one + ", " + kind + ")", x.as(one, kind), is ? one : Check.KIND);
                C.due("its finding", x.status(), is ? 0 : 3);
            }
            C.due("as(" + one + ", 6)", x.as(one, 6), Check.BAD);
            C.due("as(" + one + ", -1)", x.as(one, -1), Check.BAD);
        }
    }

    /** FILES 0 and 99, HEIGHT 0 and 20, numbers 0 and 4. */
    private static void sizesAtTheEnds() {
        for (int i = 0; i < 5; i++) {
            char sort = SORTS.charAt(i);
            PaperSky x = Check.skyOf("w2,2,2,2,0;" + sort + "0,0,0;d0,0,60;d0,0,39;d0,0,0;" + sort + "0,20,60;");
            long[] low = {0, 0, -1000, -100, -200};
            long[] lowMark = {0, 0, -1000, 100, 200};
            C.due(sort + " size, all 0", x.ask(0, 0), low[i]);
            C.due(sort + " mark, all 0", x.ask(0, 1), lowMark[i]);
            C.due("99 files", x.send(2, 4, 39), 99);
            long[] high = {99 + 24, -(99 + 48), 99 + 24 - 1000, -1, -2};
            long[] highMark = {24, 48, 24 - 1000, 5, 6};
            C.due(sort + " size, all most", x.ask(4, 0), high[i]);
            C.due(sort + " mark, all most", x.ask(4, 1), highMark[i]);
        }
    }

    private static void asksFollowTheSky() {
        PaperSky x = Check.skyOf("w2,2,2,2,3;l0,4,9;d0,1,5;");
        C.due("mark", x.ask(0, 1), 4 - 1000);
        x.burn(0, 2);
        C.due("10 high", x.ask(0, 1), 10 - 1000);
        C.due("7 files", x.ask(0, 0), 7 + 10 - 1000);
        x.hours(1);
        C.due("7 high", x.ask(0, 1), 7 - 1000);
        x.send(0, 1, 7);
        C.due("12 files", x.ask(1, 0), 12 - 100);
        C.due("1 less its size", x.ask(1, 1), 1 - (12 - 100));
        x.undo();
        C.due("5 files", x.ask(1, 1), 1 - (5 - 100));
    }

    private static void trace(PaperSky x, String what, int... bodies) {
        for (int i = -1; i <= 17; i++) {
            C.due(what + ", trace " + i, x.trace(i), i >= 0 && i < bodies.length ? bodies[i] : Check.NONE);
        }
    }

    /** "each of which leaves its number in THE TRACE as it begins (the first 16)": the longest there is has 6. */
    private static void traceOfEach() {
        int[][] sizes = {{11, 10, 21, 20}, {12, 11, 10, 24, 21, 20}, {11, 10, 22, 21, 20}, {13, 10}, {14, 13, 10}};
        int[][] marks = {{21, 20}, {24, 21, 20}, {22, 21, 20}, {23, 20, 13, 10}, {23, 20, 14, 13, 10}};
        PaperSky x = new PaperSky();
        trace(x, "none yet");
        Check.tell(x, "w2,2,2,2,1;b0,0,0;f0,0,0;l0,0,0;d0,0,0;a0,0,0;");
        trace(x, "none by a sky");
        for (int one = 0; one < 5; one++) {
            x.ask(one, 0);
            trace(x, "size of " + one, sizes[one]);
            x.ask(one, 1);
            trace(x, "mark of " + one, marks[one]);
        }
    }

    /** "THE TRACE is empty ahead of it": nothing of a longer one is left behind a shorter one. */
    private static void traceIsEmptyAhead() {
        PaperSky x = Check.skyOf("w2,2,2,2,1;f0,0,0;d0,0,0;");
        x.ask(0, 0);
        trace(x, "six", 12, 11, 10, 24, 21, 20);
        x.ask(1, 0);
        trace(x, "two", 13, 10);
        x.ask(1, 0);
        trace(x, "two, not four", 13, 10);
        for (int i = 0; i < 20; i++) {
            x.ask(0, 0);
        }
        trace(x, "six, not 120", 12, 11, 10, 24, 21, 20);
        C.due("what 2", x.ask(1, 2), Check.BAD);
        C.due("what -1", x.ask(1, -1), Check.BAD);
        C.due("office 2", x.ask(2, 0), Check.BAD);
        trace(x, "BAD leaves it", 12, 11, 10, 24, 21, 20);
    }

    private static void traceOutlivesOthers() {
        PaperSky x = Check.skyOf("w2,2,2,2,1;f0,5,5;d0,0,0;");
        x.ask(1, 1);
        x.hours(1);
        x.burn(0, 1);
        x.undo();
        x.image(0);
        x.restore(0);
        x.as(0, 1);
        x.kind(0);
        x.row(0, 0, 1);
        Check.tell(x, "w2,2,2,2,1;b0,0,0;");
        trace(x, "as it was", 23, 20, 13, 10);
    }

    /** "How many: 0 ROWS, 1 OFFICES, 2 SINKS, 3 HOUR, 4 all BURNT, 5 those above HEIGHT 0 (bits), 6 ACTS ..., 7 bytes". */
    private static void countsAtTheirEnds() {
        PaperSky x = Check.skyOf("w2,2,2,2,3;b0,0,60;b0,0,60;b0,0,60;b0,0,60;b0,0,60;");
        for (int row = 0; row < 8; row++) {
            x.row(row, 0, 0);
            C.due("rows", x.count(0), row + 1);
        }
        C.due("a row anew is no row more", x.row(7, 1, 1) + x.count(0), 9);
        C.due("offices", x.count(1), 5);
        C.due("sinks", x.count(2), 3);
        for (int i = 0; i < 15; i++) {
            x.burn(i % 5, 20);
        }
        C.due("all burnt", x.count(4), 300);
        C.due("all above", x.count(5), 0b11111);
        C.due("acts", x.count(6), 15);
        C.due("hours", x.hours(24), 0);
        C.due("none above", x.count(5), 0);
        C.due("acts", x.count(6), 24);
        C.due("hour", x.count(3), 24);
        C.due("all burnt yet", x.count(4), 300);
        for (int i = 1; i <= 101; i++) {
            x.feed('w');
            C.due("bytes", x.count(7), Math.min(100, i));
        }
        x.sky();
        C.due("no byte", x.count(7), 0);
        for (int row = 7; row >= 0; row--) {
            x.drop(row);
            C.due("rows", x.count(0), row);
        }
        C.due("what 8", x.count(8), Check.BAD);
        C.due("what -1", x.count(-1), Check.BAD);
    }

    private static void countsWithoutSky() {
        PaperSky x = new PaperSky();
        for (int what = 0; what <= 7; what++) {
            C.due("count " + what, x.count(what), 0);
        }
        Check.tell(x, "w1,1,1,1,3;b9,20,61;");
        for (int what = 0; what <= 7; what++) {
            C.due("count " + what + ", behind a fault", x.count(what), 0);
        }
        C.due("what 8", x.count(8), Check.BAD);
        C.due("what -1", x.count(-1), Check.BAD);
    }

    /** "0: it had none, or there was none". */
    private static void statusAtFirst() {
        PaperSky x = new PaperSky();
        C.due("there was none", x.status(), 0);
        x.row(8, 0, 0);
        x.set(-1, 0, 0);
        x.copy(0, 0, 8, 0, 0);
        x.drop(9);
        x.petition(0, 0, 0, 1);
        x.ash(0, 0, 0, 1, -1);
        x.who(0, 0, 0, 1, 0);
        x.as(0, 0);
        C.due("all were BAD or STATE", x.status(), 0);
        x.drop(0);
        C.due("NULL", x.status(), 1);
    }

    private static PaperSky found(int finding) {
        PaperSky x = Check.skyOf("w2,2,2,2,0;b0,0,9;d0,0,9;");
        Check.tellRow(x, 0, 0, 0);
        x.row(1, 1, 1);
        switch (finding) {
            case 1: x.set(7, 0, 0); break;
            case 2: x.set(0, 2, 0); break;
            case 3: x.as(0, 4); break;
            case 4: x.row(0, 0, -1); break;
            case 5: x.copy(0, 0, 1, 0, 0); break;
            default: break;
        }
        return x;
    }

    /** "Of the latest call with a ROW, or as(), that was not BAD, STATE, FULL: the number of its FINDING". */
    private static void statusOfEachFinding() {
        for (int f = 0; f <= 5; f++) {
            for (int call = 0; call <= 7; call++) {
                PaperSky x = found(f);
                C.due("found", x.status(), f);
                latest(x, call, true);
                C.due("call " + call + " was BAD", x.status(), f);
                C.due("asked again", x.status(), f);
                latest(x, call, false);
                C.due("call " + call + " had none", x.status(), 0);
            }
        }
    }

    private static void latest(PaperSky x, int call, boolean bad) {
        int row = bad ? 8 : 0;
        switch (call) {
            case 0: x.row(row, 0, 2); break;
            case 1: x.set(row, 0, 0); break;
            case 2: x.copy(0, 0, row, 0, 1); break;
            case 3: x.drop(row); break;
            case 4: x.petition(0, row, 0, 1); break;
            case 5: x.ash(0, row, 0, 1, -1); break;
            case 6: x.who(0, row, 0, 1, 0); break;
            default: x.as(0, bad ? 6 : 1); break;
        }
    }

    private static void statusOfCallsWithoutARow() {
        for (int f = 0; f <= 5; f++) {
            PaperSky x = found(f);
            x.hours(1);
            x.burn(0, 1);
            x.burn(0, 20);
            x.send(0, 1, 1);
            x.wind(0, 0);
            x.undo();
            x.office(0, 0);
            x.land(0);
            x.ahead(0, 1, 0);
            x.down(0);
            x.meet(0, 1);
            x.over(0, 1);
            x.above(0, 0, 1, 0, -1);
            x.rule(1, 0);
            x.lasts(0);
            x.kept(0, 1);
            x.turned(0, 0, 1, 0, 0);
            x.drawn(1, 1, 0);
            x.image(0);
            x.restore(0);
            x.restore(1);
            x.kind(0);
            x.ask(0, 0);
            x.trace(0);
            x.count(0);
            x.fault();
            C.due("as it was", x.status(), f);
            Check.tell(x, "w");
            C.due("behind a fault", x.status(), f);
            Check.tell(x, "w2,2,2,2,0;b0,0,0;");
            C.due("behind a sky", x.status(), f);
        }
    }
}
