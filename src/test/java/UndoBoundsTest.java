/** The boundary cases of promises 9, 29 and 30: acts kept, forgotten and undone; images. */
public final class UndoBoundsTest {
    private static final Check C = new Check();
    private static final String SKY = "w3,2,2,2,1;b0,20,60;d0,20,60;";

    public static void main(String[] args) {
        none();
        twentyFourAreKept();
        oldestIsForgotten();
        forgottenForGood();
        eachKindOfAct();
        hoursBeyondTwentyFour();
        noActCanBeUndone();
        imagesApart();
        imageOfThreeSkies();
        C.end("UndoBoundsTest");
    }

    /** "STATE: none." */
    private static void none() {
        PaperSky x = new PaperSky();
        C.due("without a sky", x.undo(), Check.STATE);
        Check.tell(x, SKY);
        C.due("of a new sky", x.undo(), Check.STATE);
        x.burn(0, 1);
        C.due("one", x.undo(), 0);
        C.due("none", x.undo(), Check.STATE);
        C.dues("as told", Check.one(x, 0), 0, 20, 60, 0);
    }

    /** "ACTS (24 at most are kept": the first of 24 can be undone. */
    private static void twentyFourAreKept() {
        PaperSky x = Check.skyOf(SKY);
        for (int i = 1; i <= 24; i++) {
            x.burn(i & 1, 1);
            C.due("acts", x.count(6), i);
        }
        for (int i = 23; i >= 0; i--) {
            C.due("left", x.undo(), i);
            C.due("burnt", x.count(4), i);
        }
        C.due("none", x.undo(), Check.STATE);
    }

    /** "of more the oldest is forgotten": behind 25 to 80 acts, however the ring lies. */
    private static void oldestIsForgotten() {
        for (int acts = 25; acts <= 80; acts++) {
            PaperSky x = Check.skyOf(SKY);
            for (int i = 0; i < acts; i++) {
                x.burn(i & 1, 1);
            }
            C.due("24", x.count(6), 24);
            for (int i = 23; i >= 0; i--) {
                C.due("left", x.undo(), i);
                C.due("burnt", x.count(4), acts - 24 + i);
            }
            C.due("none", x.undo(), Check.STATE);
        }
    }

    /** What is forgotten does not come again when later ones are undone. */
    private static void forgottenForGood() {
        PaperSky x = Check.skyOf(SKY);
        for (int i = 0; i < 30; i++) {
            x.burn(i & 1, 1);
        }
        for (int i = 0; i < 20; i++) {
            x.undo();
        }
        C.due("4 left", x.count(6), 4);
        for (int i = 0; i < 7; i++) {
            x.wind(i & 3, 1);
        }
        C.due("11", x.count(6), 11);
        for (int i = 10; i >= 4; i--) {
            C.due("winds back", x.undo(), i);
        }
        C.due("10 burnt", x.count(4), 10);
        for (int i = 3; i >= 0; i--) {
            C.due("sheets back", x.undo(), i);
        }
        C.due("6 burnt", x.count(4), 6);
        C.due("none", x.undo(), Check.STATE);
    }

    /** "each can be undone, the latest first": an hour, sheets, files, a wind, an hour. */
    private static void eachKindOfAct() {
        PaperSky x = Check.skyOf("w3,4,1,0,2;b4,0,60;l4,20,50;a4,0,1;");
        long[][] told = all(x);
        C.due("an hour", x.hours(1), 1);
        long[][] first = all(x);
        C.due("sheets", x.burn(1, 5), 20);
        long[][] second = all(x);
        C.due("files", x.send(0, 2, 1), 2);
        long[][] third = all(x);
        C.due("a wind", x.wind(3, 4), 0);
        C.due("an hour", x.hours(1), 1);
        C.dues("by that wind", Check.one(x, 1), 4, 18, 45, 5);
        C.due("acts", x.count(6), 5);
        C.due("the hour", x.undo(), 4);
        alike(x, third);
        C.due("the wind", x.undo(), 3);
        alike(x, third);
        C.due("the wind was", x.wind(3, 1), 0);
        C.due("its act", x.undo(), 3);
        C.due("the files", x.undo(), 2);
        alike(x, second);
        C.due("the sheets", x.undo(), 1);
        alike(x, first);
        C.due("again", x.burn(1, 5), 20);
        alike(x, second);
        C.due("again back", x.undo(), 1);
        C.due("the first hour", x.undo(), 0);
        alike(x, told);
    }

    private static long[][] all(PaperSky x) {
        return new long[][] {Check.one(x, 0), Check.one(x, 1), Check.one(x, 2), {x.count(3)}};
    }

    private static void alike(PaperSky x, long[][] due) {
        long[][] got = all(x);
        for (int i = 0; i < due.length; i++) {
            C.dues("part " + i, got[i], due[i]);
        }
    }

    private static void hoursBeyondTwentyFour() {
        PaperSky x = Check.skyOf(SKY);
        x.burn(0, 1);
        x.hours(24);
        C.due("the sheet is forgotten", x.count(6), 24);
        for (int i = 0; i < 24; i++) {
            x.undo();
        }
        C.due("hour 0", x.count(3), 0);
        C.due("burnt", x.count(4), 1);
        C.due("none", x.undo(), Check.STATE);
        PaperSky y = Check.skyOf(SKY);
        y.burn(0, 1);
        y.hours(23);
        for (int i = 0; i < 24; i++) {
            y.undo();
        }
        C.due("with 23 it is not", y.count(4), 0);
    }

    /** A SKY that is read, and one restored: "no ACT can be undone then". */
    private static void noActCanBeUndone() {
        PaperSky x = Check.skyOf(SKY);
        for (int i = 0; i < 30; i++) {
            x.burn(i & 1, 1);
        }
        x.image(0);
        C.due("an image is no act, and leaves them", x.count(6), 24);
        x.restore(0);
        C.due("restored", x.count(6), 0);
        C.due("restored", x.undo(), Check.STATE);
        x.burn(0, 1);
        C.due("from now on", x.count(6), 1);
        C.due("from now on", x.undo(), 0);
        C.due("as restored", x.count(4), 30);
        C.due("not what was before", x.undo(), Check.STATE);
        x.burn(0, 1);
        Check.tell(x, SKY);
        C.due("read", x.undo(), Check.STATE);
        x.hours(2);
        x.restore(0);
        C.due("as kept", x.count(4), 30);
    }

    /** "An IMAGE (0, 1) is kept": each apart, a later one in place of an earlier one. */
    private static void imagesApart() {
        PaperSky x = Check.skyOf(SKY);
        C.due("none was kept", x.restore(0), Check.STATE);
        C.due("none was kept", x.restore(1), Check.STATE);
        x.burn(0, 1);
        C.due("image 1", x.image(1), 1);
        C.due("0 was not kept yet", x.restore(0), Check.STATE);
        C.due("and that changes nothing", x.count(6), 1);
        x.burn(0, 2);
        C.due("image 0", x.image(0), 1);
        x.burn(0, 4);
        x.wind(0, 0);
        C.due("1", x.restore(1), 1);
        C.due("1 burnt", x.count(4), 1);
        C.due("the wind too", x.wind(0, 1), 3);
        C.due("0", x.restore(0), 1);
        C.due("3 burnt", x.count(4), 3);
        x.burn(1, 7);
        x.image(0);
        x.restore(1);
        x.restore(0);
        C.due("the later one", x.count(4), 10);
        x.undo();
        C.due("restore is no act", x.count(4), 10);
    }

    /** An image keeps all of its sky: another one with more or fewer offices stands meanwhile. */
    private static void imageOfThreeSkies() {
        PaperSky x = Check.skyOf("w0,1,2,3,3;b0,20,60;f1,19,59;l2,18,58;d3,17,57;a4,16,56;");
        x.burn(4, 6);
        x.hours(3);
        x.image(0);
        Check.tell(x, "w4,4,4,4,0;a9,1,1;");
        x.image(1);
        x.restore(0);
        C.due("five", x.count(1), 5);
        C.due("sinks", x.count(2), 3);
        C.due("hour", x.count(3), 3);
        C.due("burnt", x.office(4, 3), 6);
        for (int one = 0; one < 5; one++) {
            C.due("kind " + one, x.kind(one), one + 1);
        }
        for (int band = 0; band < 4; band++) {
            C.due("wind " + band, x.wind(band, 0), band);
        }
        x.restore(1);
        C.due("one", x.count(1), 1);
        C.due("no second", x.kind(1), Check.BAD);
        C.dues("it", Check.one(x, 0), 9, 1, 1, 0);
        C.due("all burnt", x.count(4), 0);
        C.due("above 0", x.count(5), 1);
        Check.tell(x, "w9");
        C.due("a fault leaves images", x.restore(0), 1);
        C.due("five", x.count(1), 5);
    }
}
