import java.util.function.Consumer;
import java.util.function.ToLongFunction;

/**
 * Every refusal of every call, those that meet in the order that "Terms" and the promise name;
 * and "What is refused, or found, changes nothing but status()", of each of them.
 */
public final class RefusalsTest {
    private static final Check C = new Check();
    private static final int LEAST = Integer.MIN_VALUE, MOST = Integer.MAX_VALUE;
    private static final int NONE = Check.NONE, BAD = Check.BAD, STATE = Check.STATE, FULL = Check.FULL;
    private static final int NULL = Check.NULL, PLACE = Check.PLACE, KIND = Check.KIND, SIZE = Check.SIZE, STORE = Check.STORE;

    public static void main(String[] args) {
        madeAsTold();
        changesAreSeen();
        rowsRefused();
        copiesRefused();
        textsRefused();
        actsRefused();
        fullRefused();
        simpleForetoldRefused();
        foretoldByRowsRefused();
        foretoldByOddsRefused();
        imagesAndAsksRefused();
        withoutSky();
        foretoldChangesNothing();
        lookedAtChangesNothing();
        C.end("RefusalsTest");
    }

    /** All that there can be: rows of each lane, acts, an image, a trace, a fault, a tape half told, a finding. */
    private static void rich(PaperSky x) {
        Check.tell(x, "w9");
        Check.tell(x, "w4,0,3,1,1;b9,0,60;f9,0,9;l5,12,30;d9,0,60;a3,0,2;");
        fill(x, 0, 0, 0, 1, 2, 3);
        fill(x, 1, 1, 4, 3);
        x.row(2, 2, 0);
        fill(x, 3, 2, 1, 4, 0, 2, 2, 3, 7, -1, 5, 0, 0, 0, 0, 0);
        x.burn(2, 2);
        x.hours(2);
        x.wind(1, 4);
        x.image(0);
        x.hours(1);
        x.burn(4, 1);
        x.send(0, 1, 31);
        x.burn(0, 1);
        x.ask(1, 0);
        Check.feedAll(x, "w1,2,3,4,2;d3,4,5;f1,");
        x.row(5, 0, -1);
    }

    private static void fill(PaperSky x, int row, int lane, int... items) {
        x.row(row, lane, items.length);
        for (int i = 0; i < items.length; i++) {
            x.set(row, i, items[i]);
        }
    }

    private static void madeAsTold() {
        PaperSky x = new PaperSky();
        rich(x);
        C.dues("0", Check.one(x, 0), 9, 2, 28, 1);
        C.dues("1", Check.one(x, 1), 9, 0, 40, 0);
        C.dues("3", Check.one(x, 3), 9, 0, 60, 0);
        C.dues("4", Check.one(x, 4), 3, 1, 1, 1);
        C.due("acts", x.count(6), 8);
        C.due("tape", x.count(7), 21);
        C.due("rows", x.count(0), 4);
        C.due("fault", x.fault(), 2);
        C.due("status", x.status(), 4);
        C.due("trace", x.trace(5), 20);
    }

    private static void seen(String what, ToLongFunction<PaperSky> call) {
        boolean differs = false;
        for (Stand.Look look : Stand.LOOKS) {
            PaperSky without = new PaperSky();
            rich(without);
            PaperSky with = new PaperSky();
            rich(with);
            call.applyAsLong(with);
            differs |= !look.at(without).equals(look.at(with));
        }
        C.isTrue(what + " is seen", differs);
    }

    /** What the looks would not see, no test below would tell. */
    private static void changesAreSeen() {
        seen("a new row", x -> x.row(4, 0, 0));
        seen("a row of another length", x -> x.row(2, 2, 1));
        seen("a row of another lane", x -> x.row(2, 1, 0));
        seen("an item", x -> x.set(0, 3, 4));
        seen("a copy", x -> x.copy(3, 0, 3, 1, 1));
        seen("a row dropped", x -> x.drop(2));
        seen("a byte", x -> x.feed('7'));
        seen("a sky", x -> x.sky());
        seen("an act undone", x -> x.undo());
        seen("an hour", x -> x.hours(1));
        seen("a sheet", x -> x.burn(3, 1));
        seen("a file", x -> x.send(3, 0, 1));
        seen("a wind", x -> x.wind(2, 0));
        seen("a wind that is as it was", x -> x.wind(2, 3));
        seen("an image", x -> x.image(1));
        seen("an image in place of another", x -> x.image(0));
        seen("what is restored", x -> x.restore(0));
        seen("an ask", x -> x.ask(0, 0));
    }

    private static void refused(String what, ToLongFunction<PaperSky> call, long due) {
        refusedOf(what, RefusalsTest::rich, call, due);
    }

    private static void refusedOf(String what, Consumer<PaperSky> made, ToLongFunction<PaperSky> call, long due) {
        boolean finding = due < -1000010 && due > -1000016;
        unchanged(what, made, call, due, finding ? (int) (-1000010 - due) : null);
    }

    /** Two objects made alike, one of them with the call more: they stand alike; status null: it stays. */
    private static void unchanged(String what, Consumer<PaperSky> made, ToLongFunction<PaperSky> call, long due, Integer status) {
        for (Stand.Look look : Stand.LOOKS) {
            PaperSky without = new PaperSky();
            made.accept(without);
            PaperSky with = new PaperSky();
            made.accept(with);
            C.due(what, call.applyAsLong(with), due);
            C.due(what + ": status", with.status(), status == null ? without.status() : status);
            C.due(what + ": fault", with.fault(), without.fault());
            C.isTrue(what + ": changes nothing", look.at(without).equals(look.at(with)));
        }
    }

    /** Promises 2, 3, 5. */
    private static void rowsRefused() {
        refused("row -1", x -> x.row(-1, 0, 1), BAD);
        refused("row 8", x -> x.row(8, 0, 1), BAD);
        refused("row least", x -> x.row(LEAST, 0, 1), BAD);
        refused("row most", x -> x.row(MOST, 0, 1), BAD);
        refused("lane -1", x -> x.row(0, -1, 1), BAD);
        refused("lane 3", x -> x.row(0, 3, 1), BAD);
        refused("n above 40", x -> x.row(0, 0, 41), BAD);
        refused("n most", x -> x.row(0, 0, MOST), BAD);
        refused("SIZE", x -> x.row(0, 0, -1), SIZE);
        refused("SIZE, of a row that is missing", x -> x.row(4, 0, -1), SIZE);
        refused("SIZE, far fewer", x -> x.row(3, 1, LEAST), SIZE);
        refused("row: BAD ROW ahead of SIZE", x -> x.row(8, 0, -1), BAD);
        refused("row: BAD LANE ahead of SIZE", x -> x.row(0, 3, -1), BAD);
        refused("set: ROW -1", x -> x.set(-1, 0, 1), BAD);
        refused("set: ROW 8", x -> x.set(8, 0, 1), BAD);
        refused("set: BAD ahead of PLACE", x -> x.set(8, -1, 1), BAD);
        refused("set: NULL", x -> x.set(4, 0, 1), NULL);
        refused("set: NULL ahead of PLACE", x -> x.set(4, -1, 1), NULL);
        refused("set: PLACE -1", x -> x.set(0, -1, 4), PLACE);
        refused("set: PLACE 4 of 4", x -> x.set(0, 4, 4), PLACE);
        refused("set: PLACE 0 of 0", x -> x.set(2, 0, 4), PLACE);
        refused("set: PLACE least", x -> x.set(3, LEAST, 4), PLACE);
        refused("set: PLACE most", x -> x.set(3, MOST, 4), PLACE);
        refused("drop: ROW -1", x -> x.drop(-1), BAD);
        refused("drop: ROW 8", x -> x.drop(8), BAD);
        refused("drop: NULL", x -> x.drop(4), NULL);
    }

    /** Promise 4. */
    private static void copiesRefused() {
        refused("copy: BAD a", x -> x.copy(-1, 0, 0, 0, 1), BAD);
        refused("copy: BAD a", x -> x.copy(8, 0, 0, 0, 1), BAD);
        refused("copy: BAD b", x -> x.copy(0, 0, -1, 0, 1), BAD);
        refused("copy: BAD b", x -> x.copy(0, 0, 8, 0, 1), BAD);
        refused("copy: BAD b ahead of NULL a", x -> x.copy(4, 0, 8, 0, 1), BAD);
        refused("copy: BAD a ahead of NULL b", x -> x.copy(8, 0, 4, 0, 1), BAD);
        refused("copy: BAD ahead of PLACE", x -> x.copy(8, -1, 0, -1, -1), BAD);
        refused("copy: NULL a", x -> x.copy(4, 0, 0, 0, 1), NULL);
        refused("copy: NULL b", x -> x.copy(0, 0, 4, 0, 1), NULL);
        refused("copy: NULL both", x -> x.copy(4, 0, 4, 0, 0), NULL);
        refused("copy: NULL a ahead of PLACE", x -> x.copy(4, -1, 0, 9, 1), NULL);
        refused("copy: NULL b ahead of PLACE", x -> x.copy(0, -1, 4, 9, 1), NULL);
        refused("copy: NULL b ahead of STORE", x -> x.copy(3, 0, 4, 0, 1), NULL);
        refused("copy: NULL a ahead of STORE", x -> x.copy(4, 0, 3, 0, 1), NULL);
        refused("copy: STORE", x -> x.copy(0, 0, 1, 0, 1), STORE);
        refused("copy: STORE, none", x -> x.copy(1, 0, 3, 0, 0), STORE);
        refused("copy: STORE ahead of PLACE i", x -> x.copy(3, -1, 0, 0, 1), STORE);
        refused("copy: STORE ahead of PLACE n", x -> x.copy(3, 0, 0, 0, -1), STORE);
        refused("copy: STORE ahead of PLACE, beyond an end", x -> x.copy(0, 0, 3, 0, 5), STORE);
        refused("copy: i below 0", x -> x.copy(3, -1, 3, 0, 1), PLACE);
        refused("copy: j below 0", x -> x.copy(3, 0, 3, -1, 1), PLACE);
        refused("copy: n below 0", x -> x.copy(3, 1, 3, 1, -1), PLACE);
        refused("copy: i below 0, none", x -> x.copy(3, -1, 3, 0, 0), PLACE);
        refused("copy: j below 0, none", x -> x.copy(3, 0, 3, -1, 0), PLACE);
        refused("copy: i beyond the end, none", x -> x.copy(0, 5, 0, 0, 0), PLACE);
        refused("copy: j beyond the end, none", x -> x.copy(0, 0, 0, 5, 0), PLACE);
        refused("copy: from beyond the end", x -> x.copy(0, 2, 0, 0, 3), PLACE);
        refused("copy: to beyond the end", x -> x.copy(0, 0, 0, 2, 3), PLACE);
        refused("copy: n beyond both", x -> x.copy(0, 0, 0, 0, 5), PLACE);
        refused("copy: i and n wrap around", x -> x.copy(3, MOST, 3, 0, 1), PLACE);
        refused("copy: j and n wrap around", x -> x.copy(3, 0, 3, MOST, 1), PLACE);
        refused("copy: n most", x -> x.copy(3, 1, 3, 1, MOST), PLACE);
        refused("copy: n least", x -> x.copy(3, 0, 3, 0, LEAST), PLACE);
        refused("copy: all least", x -> x.copy(3, LEAST, 3, LEAST, LEAST), PLACE);
    }

    /** Promises 6 and 7: a byte that is none, a tape that is full; a FAULT: all stays, but the tape is empty. */
    private static void textsRefused() {
        refused("feed -1", x -> x.feed(-1), BAD);
        refused("feed 256", x -> x.feed(256), BAD);
        refused("feed least", x -> x.feed(LEAST), BAD);
        refused("feed most", x -> x.feed(MOST), BAD);
        refusedOf("feed: FULL", RefusalsTest::richWithFullTape, x -> x.feed('7'), FULL);
        refusedOf("feed: BAD ahead of FULL", RefusalsTest::richWithFullTape, x -> x.feed(256), BAD);
        String[] faulty = {"", "w", "w5,2,2,2,0;", "w2,2,2,2,0;b0,0,61;", "w0,0,0,0,0;d1,1,1;d1,1,1;x",
            "w0,0,0,0,0;d1,1,1;d1,1,1;d1,1,1;d1,1,1;d1,1,1;d1,1,1;"};
        for (String text : faulty) {
            allStays(text);
        }
    }

    private static void richWithFullTape(PaperSky x) {
        rich(x);
        for (int i = 0; i < 79; i++) {
            x.feed('7');
        }
    }

    private static void richWithEmptyTape(PaperSky x) {
        rich(x);
        x.sky();
    }

    private static void allStays(String text) {
        for (Stand.Look look : Stand.LOOKS) {
            PaperSky without = new PaperSky();
            richWithEmptyTape(without);
            PaperSky with = new PaperSky();
            richWithEmptyTape(with);
            C.isTrue("'" + text + "' has a fault", Check.tell(with, text) <= -1000100);
            C.due("'" + text + "': status stays", with.status(), 4);
            C.isTrue("'" + text + "': all stays", look.at(without).equals(look.at(with)));
        }
    }

    /** Promises 9 to 15. */
    private static void actsRefused() {
        for (int n : new int[] {0, -1, 25, LEAST, MOST}) {
            refused("hours " + n, x -> x.hours(n), BAD);
        }
        for (int office : new int[] {-1, 5, LEAST, MOST}) {
            refused("burn: office " + office, x -> x.burn(office, 1), BAD);
            refused("send: from " + office, x -> x.send(office, 0, 1), BAD);
            refused("send: to " + office, x -> x.send(0, office, 1), BAD);
            refused("office " + office, x -> x.office(office, 0), BAD);
        }
        for (int n : new int[] {0, -1, 21, LEAST, MOST}) {
            refused("burn: n " + n, x -> x.burn(0, n), BAD);
            refused("burn: n " + n + ", BAD ahead of STATE", x -> x.burn(4, n), BAD);
        }
        refused("burn: it has not so many", x -> x.burn(4, 2), STATE);
        refused("burn: 20 of 1", x -> x.burn(4, 20), STATE);
        refused("send: alike", x -> x.send(0, 0, 1), BAD);
        refused("send: alike ahead of not so many", x -> x.send(4, 4, 2), BAD);
        for (int n : new int[] {0, -1, 61, LEAST, MOST}) {
            refused("send: n " + n, x -> x.send(3, 0, n), BAD);
            refused("send: n " + n + ", BAD ahead of another land", x -> x.send(3, 4, n), BAD);
        }
        refused("send: not in one land", x -> x.send(0, 4, 1), STATE);
        refused("send: not so many", x -> x.send(0, 1, 29), STATE);
        refused("send: not so many ahead of FULL", x -> x.send(0, 3, 60), STATE);
        refused("send: FULL, 100", x -> x.send(1, 3, 40), FULL);
        refused("send: FULL, 120", x -> x.send(3, 1, 60), FULL);
        for (int band : new int[] {-1, 4, LEAST, MOST}) {
            refused("wind: band " + band, x -> x.wind(band, 0), BAD);
        }
        for (int n : new int[] {-1, 5, LEAST, MOST}) {
            refused("wind: n " + n, x -> x.wind(0, n), BAD);
        }
        for (int what : new int[] {-1, 6, LEAST, MOST}) {
            refused("office: what " + what, x -> x.office(0, what), BAD);
        }
        for (int land : new int[] {-1, 10, LEAST, MOST}) {
            refused("land " + land, x -> x.land(land), BAD);
        }
    }

    private static void late(PaperSky x) {
        rich(x);
        for (int i = 0; i < 41; i++) {
            x.hours(24);
        }
        x.burn(0, 1);
    }

    private static void noneToUndo(PaperSky x) {
        rich(x);
        for (int i = 0; i < 8; i++) {
            x.undo();
        }
    }

    /** 987 hours are gone; of the lands by then, another one than the sender's makes STATE come ahead of FULL. */
    private static void fullRefused() {
        refusedOf("hours: FULL, 1000", RefusalsTest::late, x -> x.hours(13), FULL);
        refusedOf("hours: FULL, 1011", RefusalsTest::late, x -> x.hours(24), FULL);
        refusedOf("hours: BAD ahead of FULL", RefusalsTest::late, x -> x.hours(25), BAD);
        refusedOf("undo: none", RefusalsTest::noneToUndo, x -> x.undo(), STATE);
        refusedOf("send: not in one land ahead of FULL", x -> {
            rich(x);
            Check.tell(x, "");
            Check.tell(x, "w2,2,2,2,0;b1,0,60;b2,0,60;");
        }, x -> x.send(0, 1, 60), STATE);
    }

    /** Promises 16 to 20. */
    private static void simpleForetoldRefused() {
        for (int office : new int[] {-1, 5, LEAST, MOST}) {
            refused("ahead: office " + office, x -> x.ahead(office, 0, 0), BAD);
            refused("down: office " + office, x -> x.down(office), BAD);
            refused("meet: office " + office, x -> x.meet(office, 0), BAD);
            refused("meet: other " + office, x -> x.meet(0, office), BAD);
            refused("above: office " + office, x -> x.above(office, 0, 1, 0, -1), BAD);
        }
        refused("meet: alike", x -> x.meet(3, 3), BAD);
        for (int n : new int[] {-1, 61, LEAST, MOST}) {
            refused("ahead: n " + n, x -> x.ahead(0, n, 0), BAD);
            refused("over: n " + n, x -> x.over(0, n), BAD);
        }
        for (int what : new int[] {-1, 2, LEAST, MOST}) {
            refused("ahead: what " + what, x -> x.ahead(0, 0, what), BAD);
        }
        for (int land : new int[] {-1, 10, LEAST, MOST}) {
            refused("over: land " + land, x -> x.over(land, 0), BAD);
            refused("above: land " + land, x -> x.above(0, land, 1, 0, -1), BAD);
        }
        for (int n : new int[] {-1, 0, 13, LEAST, MOST}) {
            refused("above: n " + n, x -> x.above(0, 9, n, 0, -1), BAD);
            refused("above: n " + n + ", BAD ahead of NONE", x -> x.above(0, 0, n, 20, 99), BAD);
        }
        for (int h : new int[] {-1, 21, LEAST, MOST}) {
            refused("above: h " + h, x -> x.above(0, 9, 1, h, -1), BAD);
        }
        refused("above: k -2", x -> x.above(0, 9, 1, 0, -2), BAD);
        refused("above: k least", x -> x.above(0, 9, 1, 0, LEAST), BAD);
        refused("above: k -2, BAD ahead of NONE", x -> x.above(0, 0, 1, 20, -2), BAD);
    }

    /** Promises 21 to 23. */
    private static void foretoldByRowsRefused() {
        for (int row : new int[] {-1, 8, LEAST, MOST}) {
            refused("petition: row " + row, x -> x.petition(9, row, 0, 1), BAD);
            refused("ash: row " + row, x -> x.ash(0, row, 0, 1, -1), BAD);
            refused("who: row " + row, x -> x.who(0, row, 0, 1, 0), BAD);
        }
        for (int land : new int[] {-1, 10, LEAST, MOST}) {
            refused("petition: land " + land, x -> x.petition(land, 3, 0, 1), BAD);
            refused("petition: land " + land + " ahead of NULL", x -> x.petition(land, 4, 0, 1), BAD);
        }
        for (int n : new int[] {-1, 0, 9, LEAST, MOST}) {
            refused("petition: n " + n, x -> x.petition(9, 3, 0, n), BAD);
            refused("petition: n " + n + " ahead of NULL", x -> x.petition(9, 4, 0, n), BAD);
            refused("petition: n " + n + " ahead of PLACE", x -> x.petition(9, 3, -1, n), BAD);
        }
        for (int n : new int[] {-1, 0, 7, LEAST, MOST}) {
            refused("ash: n " + n, x -> x.ash(0, 3, 0, n, -1), BAD);
            refused("ash: n " + n + " ahead of NULL", x -> x.ash(0, 4, 0, n, -1), BAD);
            refused("ash: n " + n + " ahead of PLACE", x -> x.ash(0, 3, -1, n, -1), BAD);
        }
        for (int n : new int[] {-1, 0, 13, LEAST, MOST}) {
            refused("who: n " + n, x -> x.who(0, 3, 0, n, 0), BAD);
            refused("who: n " + n + " ahead of NULL", x -> x.who(0, 4, 0, n, 0), BAD);
            refused("who: n " + n + " ahead of PLACE", x -> x.who(0, 3, -1, n, 0), BAD);
        }
        for (int k : new int[] {-2, LEAST}) {
            refused("ash: k " + k, x -> x.ash(0, 3, 0, 1, k), BAD);
            refused("ash: k " + k + " ahead of NULL", x -> x.ash(0, 4, 0, 1, k), BAD);
        }
        for (int s : new int[] {-1, 21, LEAST, MOST}) {
            refused("who: s " + s, x -> x.who(0, 3, 0, 1, s), BAD);
            refused("who: s " + s + " ahead of NULL", x -> x.who(0, 4, 0, 1, s), BAD);
        }
        for (int office : new int[] {-1, 5, LEAST, MOST}) {
            refused("ash: office " + office, x -> x.ash(office, 3, 0, 1, -1), BAD);
            refused("ash: office " + office + " ahead of NULL", x -> x.ash(office, 4, 0, 1, -1), BAD);
            refused("who: office " + office, x -> x.who(office, 3, 0, 1, 0), BAD);
            refused("who: office " + office + " ahead of NULL", x -> x.who(office, 4, 0, 1, 0), BAD);
        }
        missingAndPlaces();
        refused("petition: an ITEM 7", x -> x.petition(9, 3, 6, 1), BAD);
        refused("petition: an ITEM -1", x -> x.petition(9, 3, 7, 1), BAD);
        refused("petition: an ITEM 5", x -> x.petition(9, 3, 8, 1), BAD);
        refused("petition: an ITEM behind one that never reads", x -> x.petition(0, 3, 0, 7), BAD);
    }

    /** Row 4 is missing, 2 has no item, 3 has 14. */
    private static void missingAndPlaces() {
        refused("petition: NULL", x -> x.petition(9, 4, 0, 1), NULL);
        refused("ash: NULL", x -> x.ash(0, 4, 0, 1, -1), NULL);
        refused("who: NULL", x -> x.who(0, 4, 0, 1, 0), NULL);
        for (int i : new int[] {-1, 14, LEAST, MOST}) {
            refused("petition: NULL ahead of PLACE " + i, x -> x.petition(9, 4, i, 1), NULL);
            refused("petition: PLACE " + i, x -> x.petition(9, 3, i, 1), PLACE);
            refused("ash: NULL ahead of PLACE " + i, x -> x.ash(0, 4, i, 1, -1), NULL);
            refused("ash: PLACE " + i, x -> x.ash(0, 3, i, 1, -1), PLACE);
            refused("who: NULL ahead of PLACE " + i, x -> x.who(0, 4, i, 1, 0), NULL);
            refused("who: PLACE " + i, x -> x.who(0, 3, i, 1, 0), PLACE);
        }
        refused("petition: one beyond the end, ahead of an ITEM", x -> x.petition(9, 3, 7, 8), PLACE);
        refused("ash: one beyond the end", x -> x.ash(0, 3, 9, 6, 0), PLACE);
        refused("ash: PLACE ahead of NONE", x -> x.ash(0, 3, 14, 1, 9), PLACE);
        refused("who: one beyond the end", x -> x.who(0, 3, 3, 12, 0), PLACE);
        refused("petition: of no item", x -> x.petition(9, 2, 0, 1), PLACE);
        refused("ash: of no item", x -> x.ash(0, 2, 0, 1, -1), PLACE);
        refused("who: of no item", x -> x.who(0, 2, 0, 1, 0), PLACE);
    }

    /** Promises 24 to 28. */
    private static void foretoldByOddsRefused() {
        for (int n : new int[] {-1, 0, 61, LEAST, MOST}) {
            refused("rule: n " + n, x -> x.rule(n, 0), BAD);
        }
        for (int what : new int[] {-1, 2, LEAST, MOST}) {
            refused("rule: what " + what, x -> x.rule(1, what), BAD);
            refused("turned: what " + what, x -> x.turned(0, 9, 1, 5, what), BAD);
            refused("drawn: what " + what, x -> x.drawn(1, 1, what), BAD);
        }
        for (int office : new int[] {-1, 5, LEAST, MOST}) {
            refused("lasts: office " + office, x -> x.lasts(office), BAD);
            refused("kept: office " + office, x -> x.kept(office, 1), BAD);
            refused("turned: office " + office, x -> x.turned(office, 9, 1, 5, 0), BAD);
        }
        for (int n : new int[] {-1, 0, 25, LEAST, MOST}) {
            refused("kept: n " + n, x -> x.kept(0, n), BAD);
            refused("kept: n " + n + ", BAD ahead of NONE", x -> x.kept(1, n), BAD);
        }
        for (int land : new int[] {-1, 10, LEAST, MOST}) {
            refused("turned: land " + land, x -> x.turned(0, land, 1, 5, 0), BAD);
        }
        for (int n : new int[] {-1, 0, 13, LEAST, MOST}) {
            refused("turned: n " + n, x -> x.turned(0, 9, n, 5, 0), BAD);
        }
        for (int p : new int[] {-1, 11, LEAST, MOST}) {
            refused("turned: p " + p, x -> x.turned(0, 9, 1, p, 0), BAD);
        }
        for (int n : new int[] {-1, 61, LEAST, MOST}) {
            refused("drawn: n " + n, x -> x.drawn(n, 1, 0), BAD);
        }
        for (int seed : new int[] {-1, 0, 1000000, LEAST, MOST}) {
            refused("drawn: seed " + seed, x -> x.drawn(1, seed, 0), BAD);
            refused("drawn: seed " + seed + ", no hour", x -> x.drawn(0, seed, 1), BAD);
        }
    }

    /** Promises 29 to 35. */
    private static void imagesAndAsksRefused() {
        for (int k : new int[] {-1, 2, LEAST, MOST}) {
            refused("image " + k, x -> x.image(k), BAD);
            refused("restore " + k, x -> x.restore(k), BAD);
        }
        refused("restore: none was kept", x -> x.restore(1), STATE);
        for (int one : new int[] {-1, 5, LEAST, MOST}) {
            refused("kind of " + one, x -> x.kind(one), BAD);
            refused("as: one " + one, x -> x.as(one, 0), BAD);
            refused("ask: one " + one, x -> x.ask(one, 0), BAD);
        }
        for (int kind : new int[] {-1, 6, LEAST, MOST}) {
            refused("as: kind " + kind, x -> x.as(0, kind), BAD);
        }
        refused("as: it is no such one", x -> x.as(0, 2), KIND);
        refused("as: it is no such one", x -> x.as(4, 1), KIND);
        for (int what : new int[] {-1, 2, LEAST, MOST}) {
            refused("ask: what " + what, x -> x.ask(0, what), BAD);
        }
        for (int i : new int[] {-1, 6, 15, 16, LEAST, MOST}) {
            refused("trace " + i, x -> x.trace(i), NONE);
        }
        for (int what : new int[] {-1, 8, LEAST, MOST}) {
            refused("count " + what, x -> x.count(what), BAD);
        }
    }

    private static void bare(PaperSky x) {
        Check.tell(x, "w9");
        fill(x, 3, 2, 0, 1, 9);
        Check.feedAll(x, "w1,2,3,4,2;d3,4,5;f1,");
        x.row(5, 0, -1);
    }

    private static void bareRefused(String what, ToLongFunction<PaperSky> call, long due) {
        refusedOf("no sky, " + what, RefusalsTest::bare, call, due);
    }

    /** "STATE: no SKY (ahead of BAD)" where the promise says so; elsewhere there is no such office: BAD. */
    private static void withoutSky() {
        for (int n : new int[] {-1, 0, 1, 99}) {
            bareRefused("hours " + n, x -> x.hours(n), STATE);
            bareRefused("wind " + n, x -> x.wind(n, n), STATE);
            bareRefused("land " + n, x -> x.land(n), STATE);
            bareRefused("over " + n, x -> x.over(n, n), STATE);
            bareRefused("petition " + n, x -> x.petition(n, n, n, n), STATE);
            bareRefused("rule " + n, x -> x.rule(n, n), STATE);
            bareRefused("drawn " + n, x -> x.drawn(n, n, n), STATE);
        }
        bareRefused("petition, ahead of NULL", x -> x.petition(0, 4, 0, 1), STATE);
        bareRefused("petition, ahead of PLACE", x -> x.petition(0, 3, 9, 1), STATE);
        bareRefused("petition, ahead of an ITEM", x -> x.petition(0, 3, 0, 3), STATE);
        bareRefused("burn", x -> x.burn(0, 1), BAD);
        bareRefused("send", x -> x.send(0, 1, 1), BAD);
        bareRefused("office", x -> x.office(0, 0), BAD);
        bareRefused("ahead", x -> x.ahead(0, 0, 0), BAD);
        bareRefused("down", x -> x.down(0), BAD);
        bareRefused("meet", x -> x.meet(0, 1), BAD);
        bareRefused("above", x -> x.above(0, 0, 1, 0, -1), BAD);
        bareRefused("ash", x -> x.ash(0, 3, 0, 1, -1), BAD);
        bareRefused("ash, ahead of NULL", x -> x.ash(0, 4, 0, 1, -1), BAD);
        bareRefused("who", x -> x.who(0, 3, 0, 1, 0), BAD);
        bareRefused("who, ahead of NULL", x -> x.who(0, 4, 0, 1, 0), BAD);
        bareRefused("lasts", x -> x.lasts(0), BAD);
        bareRefused("kept", x -> x.kept(0, 1), BAD);
        bareRefused("turned", x -> x.turned(0, 0, 1, 0, 0), BAD);
        bareRefused("kind", x -> x.kind(0), BAD);
        bareRefused("as", x -> x.as(0, 0), BAD);
        bareRefused("ask", x -> x.ask(0, 0), BAD);
        bareRefused("undo", x -> x.undo(), STATE);
        bareRefused("image 0", x -> x.image(0), STATE);
        bareRefused("image 1", x -> x.image(1), STATE);
        bareRefused("image, BAD ahead of STATE", x -> x.image(2), BAD);
        bareRefused("restore 0", x -> x.restore(0), STATE);
        bareRefused("restore 1", x -> x.restore(1), STATE);
        bareRefused("restore, BAD ahead of STATE", x -> x.restore(-1), BAD);
        bareRefused("trace", x -> x.trace(0), NONE);
    }

    private static void same(String what, ToLongFunction<PaperSky> call, Integer status) {
        PaperSky x = new PaperSky();
        rich(x);
        unchanged(what, RefusalsTest::rich, call, call.applyAsLong(x), status);
    }

    /** "FORETOLD (nothing changes ...)"; a call with a ROW that finds nothing makes status() 0. */
    private static void foretoldChangesNothing() {
        same("ahead", x -> x.ahead(2, 60, 0), null);
        same("down", x -> x.down(2), null);
        same("meet", x -> x.meet(2, 0), null);
        same("over", x -> x.over(9, 60), null);
        same("above", x -> x.above(2, 3, 12, 5, -1), null);
        same("above, the k-th", x -> x.above(0, 9, 12, 20, 11), null);
        same("petition", x -> x.petition(9, 3, 2, 4), 0);
        same("petition, all at once", x -> x.petition(9, 1, 1, 1), 0);
        same("ash", x -> x.ash(0, 3, 0, 2, -1), 0);
        same("ash, NONE", x -> x.ash(0, 3, 0, 2, 2), 0);
        same("who", x -> x.who(0, 3, 0, 1, 20), 0);
        same("rule", x -> x.rule(60, 1), null);
        same("lasts", x -> x.lasts(2), null);
        same("kept", x -> x.kept(2, 24), null);
        same("turned", x -> x.turned(2, 0, 12, 3, 1), null);
        same("drawn", x -> x.drawn(60, 999999, 0), null);
        same("as", x -> x.as(4, 4), 0);
        same("image, of what it is already", x -> {
            x.restore(0);
            return x.image(0);
        }, null, x -> x.restore(0));
    }

    /** As same(), for objects that one call more has brought to where they are. */
    private static void same(String what, ToLongFunction<PaperSky> call, Integer status, Consumer<PaperSky> more) {
        unchanged(what, x -> {
            rich(x);
            more.accept(x);
        }, call, 1, status);
    }

    private static void lookedAtChangesNothing() {
        same("fault", x -> x.fault(), null);
        same("office", x -> x.office(2, 5), null);
        same("land", x -> x.land(9), null);
        same("kind", x -> x.kind(4), null);
        same("trace", x -> x.trace(3), null);
        same("status", x -> x.status(), null);
        for (int i = 0; i <= 7; i++) {
            int what = i;
            same("count " + what, x -> x.count(what), null);
        }
    }
}
