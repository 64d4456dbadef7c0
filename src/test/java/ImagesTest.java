/** Promises 29, 30 and 35: images, and what is counted. */
public final class ImagesTest {
    private static final Check C = new Check();

    public static void main(String[] args) {
        restored();
        refused();
        acrossSkies();
        counted();
        C.end("ImagesTest");
    }

    private static void restored() {
        PaperSky x = Check.skyOf("w3,1,2,4,2;b0,15,20;f0,9,30;");
        x.burn(0, 3);
        x.hours(2);
        x.wind(0, 4);
        C.due("kept", x.image(0), 1);
        C.due("its acts stay", x.count(6), 4);
        x.send(0, 1, 2);
        x.hours(3);
        x.burn(1, 2);
        x.wind(1, 0);
        C.due("kept", x.image(1), 1);
        C.due("acts", x.count(6), 9);
        C.due("as it was", x.restore(0), 1);
        C.dues("0", Check.one(x, 0), 4, 16, 17, 3);
        C.dues("1", Check.one(x, 1), 1, 5, 30, 0);
        C.due("hour", x.count(3), 2);
        C.due("no act", x.count(6), 0);
        C.due("no undo", x.undo(), Check.STATE);
        C.due("wind 0", x.wind(0, 2), 4);
        C.due("wind 1", x.wind(1, 2), 1);
        C.due("the other one", x.restore(1), 1);
        C.due("hour", x.count(3), 5);
        C.due("all burnt", x.count(4), 5);
        C.due("wind 1", x.wind(1, 2), 0);
        x.burn(1, 1);
        C.due("an image is no other for what comes", x.restore(1), 1);
        C.due("all burnt", x.count(4), 5);
        C.due("again and again", x.restore(0), 1);
        C.due("hour", x.count(3), 2);
    }

    private static void refused() {
        PaperSky x = new PaperSky();
        C.due("image, no sky", x.image(0), Check.STATE);
        C.due("image -1", x.image(-1), Check.BAD);
        C.due("image 2", x.image(2), Check.BAD);
        C.due("restore, none", x.restore(0), Check.STATE);
        C.due("restore -1", x.restore(-1), Check.BAD);
        C.due("restore 2", x.restore(2), Check.BAD);
        Check.tell(x, "w2,2,2,2,0;b0,0,9;");
        x.burn(0, 1);
        x.image(1);
        C.due("0 was not kept", x.restore(0), Check.STATE);
        C.due("refused: acts stay", x.count(6), 1);
        C.due("1 was", x.restore(1), 1);
    }

    private static void acrossSkies() {
        PaperSky x = Check.skyOf("w3,1,2,4,2;b0,15,20;f3,9,30;l4,4,4;");
        x.hours(1);
        x.image(0);
        Check.tell(x, "w2,2,2,2,0;d9,9,9;");
        C.due("one office", x.count(1), 1);
        C.due("an image of the sky before", x.restore(0), 1);
        C.due("three", x.count(1), 3);
        C.due("kind", x.kind(0), 1);
        C.due("sinks", x.count(2), 2);
        C.due("hour", x.count(3), 1);
        C.dues("1", Check.one(x, 1), 2, 7, 30, 0);
        C.due("winds", x.wind(3, 0), 4);
    }

    private static void counted() {
        PaperSky x = Check.skyOf("w3,1,2,4,2;b0,15,20;f0,0,30;l1,3,7;");
        x.row(3, 0, 0);
        x.row(5, 2, 9);
        x.burn(0, 4);
        x.burn(2, 1);
        x.hours(1);
        x.feed('w');
        C.due("rows", x.count(0), 2);
        C.due("offices", x.count(1), 3);
        C.due("sinks", x.count(2), 2);
        C.due("hour", x.count(3), 1);
        C.due("burnt", x.count(4), 5);
        C.due("above 0", x.count(5), 0b101);
        C.due("acts", x.count(6), 3);
        C.due("bytes", x.count(7), 1);
        C.due("what 8", x.count(8), Check.BAD);
        C.due("what -1", x.count(-1), Check.BAD);
        x.undo();
        x.undo();
        C.due("burnt, undone", x.count(4), 4);
    }
}
