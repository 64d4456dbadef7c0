/** Promises 2 to 5 and 36: rows, and what was found on them. */
public final class RowsTest {
    private static final Check C = new Check();

    public static void main(String[] args) {
        made();
        itemsSet();
        copied();
        dropped();
        orderOfRefusals();
        findingsKept();
        C.end("RowsTest");
    }

    private static void made() {
        PaperSky x = new PaperSky();
        C.due("row of 0", x.row(0, 0, 0), 0);
        C.due("row of 40", x.row(7, 2, 40), 40);
        C.due("two rows", x.count(0), 2);
        C.due("row 8", x.row(8, 0, 1), Check.BAD);
        C.due("row -1", x.row(-1, 0, 1), Check.BAD);
        C.due("lane 3", x.row(0, 3, 1), Check.BAD);
        C.due("lane -1", x.row(0, -1, 1), Check.BAD);
        C.due("41 items", x.row(0, 0, 41), Check.BAD);
        C.due("most items", x.row(0, 0, Integer.MAX_VALUE), Check.BAD);
        C.due("fewer than none", x.row(0, 0, -1), Check.SIZE);
        C.due("far fewer", x.row(0, 0, Integer.MIN_VALUE), Check.SIZE);
        C.due("BAD ahead of SIZE", x.row(0, 3, -1), Check.BAD);
        C.due("the old row stays when refused", x.drop(0), 0);
        x.set(7, 39, 5);
        C.due("in place of what is there", x.row(7, 2, 40), 40);
        x.row(1, 2, 1);
        C.due("items are 0 at first", x.copy(7, 39, 1, 0, 1), 1);
        PaperSky y = Check.skyOf("w2,2,2,2,0;b5,0,0;");
        Check.tellRow(y, 0, 3, 3);
        y.row(0, 2, 2);
        C.due("0 in all places of a new row", y.petition(5, 0, 0, 2), 0);
    }

    private static void itemsSet() {
        PaperSky x = new PaperSky();
        x.row(0, 0, 2);
        x.row(1, 1, 2);
        x.row(2, 2, 2);
        C.due("byte 127", x.set(0, 0, 127), 127);
        C.due("byte 128", x.set(0, 0, 128), -128);
        C.due("byte 255", x.set(0, 1, 255), -1);
        C.due("byte 256", x.set(0, 1, 256), 0);
        C.due("byte -129", x.set(0, 1, -129), 127);
        C.due("short 32767", x.set(1, 0, 32767), 32767);
        C.due("short 32768", x.set(1, 0, 32768), -32768);
        C.due("short 65537", x.set(1, 1, 65537), 1);
        C.due("int most", x.set(2, 0, Integer.MAX_VALUE), Integer.MAX_VALUE);
        C.due("int least", x.set(2, 1, Integer.MIN_VALUE), Integer.MIN_VALUE);
        C.due("place 2", x.set(0, 2, 1), Check.PLACE);
        C.due("place -1", x.set(0, -1, 1), Check.PLACE);
        C.due("place least", x.set(0, Integer.MIN_VALUE, 1), Check.PLACE);
        C.due("place most", x.set(0, Integer.MAX_VALUE, 1), Check.PLACE);
        C.due("missing", x.set(3, 0, 1), Check.NULL);
        C.due("missing ahead of the place", x.set(3, -1, 1), Check.NULL);
        C.due("row 8", x.set(8, 0, 1), Check.BAD);
        x.row(4, 0, 0);
        C.due("no place in a row of 0", x.set(4, 0, 1), Check.PLACE);
    }

    /** Items are seen through petition: the n-th office told is the one that reads. */
    private static void copied() {
        PaperSky x = Check.skyOf("w2,2,2,2,0;b1,0,0;b2,0,0;b3,0,0;b4,0,0;");
        Check.tellRow(x, 0, 0, 1, 2, 3);
        C.due("onto itself, forwards", x.copy(0, 0, 0, 1, 3), 3);
        C.dues("0 0 1 2", readers(x, 0, 4), 0, 0, 1, 2);
        Check.tellRow(x, 0, 0, 1, 2, 3);
        C.due("onto itself, backwards", x.copy(0, 1, 0, 0, 3), 3);
        C.dues("1 2 3 3", readers(x, 0, 4), 1, 2, 3, 3);
        Check.tellRow(x, 1, 3, 3);
        C.due("to another", x.copy(0, 1, 1, 0, 1), 1);
        C.dues("2 3", readers(x, 1, 2), 2, 3);
        C.dues("from stays", readers(x, 0, 4), 1, 2, 3, 3);
        C.due("none, at the end", x.copy(0, 4, 1, 2, 0), 0);
        C.due("none, beyond the end", x.copy(0, 5, 1, 2, 0), Check.PLACE);
        C.due("beyond from", x.copy(0, 3, 1, 0, 2), Check.PLACE);
        C.due("beyond to", x.copy(0, 0, 1, 1, 2), Check.PLACE);
        C.due("i below 0", x.copy(0, -1, 1, 0, 1), Check.PLACE);
        C.due("j below 0", x.copy(0, 0, 1, -1, 1), Check.PLACE);
        C.due("n below 0", x.copy(0, 0, 1, 0, -1), Check.PLACE);
        C.due("i and n wrap", x.copy(0, Integer.MAX_VALUE, 1, 0, Integer.MAX_VALUE), Check.PLACE);
        C.due("n is the least", x.copy(0, 0, 1, 0, Integer.MIN_VALUE), Check.PLACE);
        C.dues("refused: nothing changed", readers(x, 1, 2), 2, 3);
    }

    private static long[] readers(PaperSky x, int row, int n) {
        long[] who = new long[n];
        for (int i = 0; i < n; i++) {
            who[i] = Check.NONE;
            for (int land = 1; land <= 4; land++) {
                if (x.petition(land, row, i, 1) == 0) {
                    who[i] = land - 1;
                }
            }
        }
        return who;
    }

    private static void dropped() {
        PaperSky x = new PaperSky();
        x.row(0, 1, 7);
        C.due("had 7", x.drop(0), 7);
        C.due("missing then", x.drop(0), Check.NULL);
        C.due("no row", x.count(0), 0);
        C.due("row 8", x.drop(8), Check.BAD);
        C.due("row -1", x.drop(-1), Check.BAD);
        x.row(0, 1, 0);
        C.due("a row of 0 is one", x.count(0), 1);
        C.due("had 0", x.drop(0), 0);
    }

    private static void orderOfRefusals() {
        PaperSky x = new PaperSky();
        x.row(0, 0, 2);
        x.row(1, 1, 2);
        C.due("BAD: a", x.copy(8, 0, 2, 0, 0), Check.BAD);
        C.due("BAD: b", x.copy(2, 0, -1, 0, 0), Check.BAD);
        C.due("NULL: a", x.copy(2, 9, 0, 0, 0), Check.NULL);
        C.due("NULL: b", x.copy(0, 9, 2, 0, 0), Check.NULL);
        C.due("STORE ahead of PLACE", x.copy(0, -1, 1, 0, 9), Check.STORE);
        C.due("STORE for none", x.copy(0, 0, 1, 0, 0), Check.STORE);
    }

    private static void findingsKept() {
        PaperSky x = Check.skyOf("w2,2,2,2,0;b0,0,0;");
        C.due("0 at first", x.status(), 0);
        x.row(0, 0, -1);
        C.due("SIZE is 4", x.status(), 4);
        x.row(9, 0, 1);
        C.due("BAD leaves it", x.status(), 4);
        x.set(0, 0, 0);
        C.due("NULL is 1", x.status(), 1);
        x.row(0, 0, 2);
        C.due("none is 0", x.status(), 0);
        x.set(0, 2, 0);
        C.due("PLACE is 2", x.status(), 2);
        x.set(0, 1, 0);
        C.due("set, none", x.status(), 0);
        x.row(1, 1, 2);
        x.copy(0, 0, 1, 0, 1);
        C.due("STORE is 5", x.status(), 5);
        x.hours(1);
        x.office(0, 0);
        x.count(0);
        x.ask(0, 0);
        C.due("calls without a row leave it", x.status(), 5);
        x.copy(0, 0, 0, 0, 1);
        C.due("copy, none", x.status(), 0);
        x.as(0, 4);
        C.due("KIND is 3", x.status(), 3);
        x.as(0, 6);
        C.due("as BAD leaves it", x.status(), 3);
        x.as(0, 0);
        C.due("as, none", x.status(), 0);
        x.drop(5);
        C.due("drop NULL", x.status(), 1);
        x.drop(1);
        C.due("drop, none", x.status(), 0);
        findingsOfForetold(x);
    }

    private static void findingsOfForetold(PaperSky x) {
        x.petition(0, 5, 0, 1);
        C.due("petition NULL", x.status(), 1);
        x.set(0, 0, 4);
        x.set(0, 1, 0);
        x.as(0, 4);
        x.petition(0, 0, 0, 2);
        C.due("petition BAD by an item leaves it", x.status(), 3);
        x.petition(0, 0, 1, 1);
        C.due("petition, none", x.status(), 0);
        x.petition(0, 0, 1, 2);
        C.due("petition PLACE", x.status(), 2);
        x.petition(1, 0, 1, 1);
        C.due("NONE is no finding", x.status(), 0);
        x.ash(0, 5, 0, 1, -1);
        C.due("ash NULL", x.status(), 1);
        x.ash(0, 0, 0, 1, 0);
        C.due("ash, none", x.status(), 0);
        x.ash(0, 0, 2, 1, 0);
        C.due("ash PLACE", x.status(), 2);
        x.ash(1, 0, 0, 1, 0);
        C.due("ash BAD leaves it", x.status(), 2);
        x.who(0, 0, 0, 1, 0);
        C.due("who, none", x.status(), 0);
        x.who(0, 0, -1, 1, 0);
        C.due("who PLACE", x.status(), 2);
        x.who(0, 6, 0, 1, 0);
        C.due("who NULL", x.status(), 1);
        PaperSky y = new PaperSky();
        y.row(0, 0, -1);
        y.petition(0, 7, 0, 1);
        C.due("STATE leaves it", y.status(), 4);
    }
}
