/** What the tests have in common: answers compared, and a sky told by its text. */
final class Check {
    static final int NULL = -1000011, PLACE = -1000012, KIND = -1000013, SIZE = -1000014, STORE = -1000015;
    static final int NONE = -1000000, BAD = -1000001, STATE = -1000002, FULL = -1000003;

    private int asked = 0;
    private int wrong = 0;

    void due(String what, long got, long want) {
        asked++;
        if (got != want) {
            wrong++;
            System.out.println("  " + what + ": answered " + got + ", due is " + want);
        }
    }

    /** Several answers at once, in their order. */
    void dues(String what, long[] got, long... want) {
        due(what + " (how many)", got.length, want.length);
        for (int i = 0; i < Math.min(got.length, want.length); i++) {
            due(what + " [" + i + "]", got[i], want[i]);
        }
    }

    void isTrue(String what, boolean holds) {
        due(what, holds ? 1 : 0, 1);
    }

    /** Prints how it went; a wrong answer ends the test with exit code 1. */
    void end(String name) {
        System.out.println(name + ": " + asked + " asked, " + wrong + " wrong");
        if (wrong != 0 || asked == 0) {
            System.exit(1);
        }
    }

    static void feedAll(PaperSky x, String text) {
        for (int i = 0; i < text.length(); i++) {
            x.feed(text.charAt(i));
        }
    }

    static int tell(PaperSky x, String text) {
        feedAll(x, text);
        return x.sky();
    }

    static PaperSky skyOf(String text) {
        PaperSky x = new PaperSky();
        if (tell(x, text) <= 0) {
            throw new IllegalStateException("no sky: " + text);
        }
        return x;
    }

    /** A row of ints that tells the numbers. */
    static void tellRow(PaperSky x, int row, int... numbers) {
        x.row(row, 2, numbers.length);
        for (int i = 0; i < numbers.length; i++) {
            x.set(row, i, numbers[i]);
        }
    }

    /** LAND, HEIGHT, FILES, BURNT of one. */
    static long[] one(PaperSky x, int office) {
        return new long[] {x.office(office, 0), x.office(office, 1), x.office(office, 2), x.office(office, 3)};
    }
}
