import java.util.ArrayList;
import java.util.List;

/**
 * How an object stands, told by answers alone: two objects that stand alike answer alike here.
 * Each look spoils the object that it looks at, so each wants one of its own; none, with the
 * calls that made the object, goes beyond 512 calls.
 */
final class Stand {
    private static final int[] BYTES_OF_REST = "7,13;".chars().toArray();

    private Stand() {
    }

    interface Look {
        List<Long> at(PaperSky x);
    }

    static final List<Look> LOOKS = List.of(Stand::now, Stand::undone, Stand::restored, Stand::rows, Stand::tape);

    /** All that can be asked without a change; fault() and status() are looked at by themselves. */
    private static List<Long> now(PaperSky x) {
        List<Long> seen = new ArrayList<>();
        for (int what = 0; what <= 7; what++) {
            seen.add((long) x.count(what));
        }
        for (int i = 0; i <= 16; i++) {
            seen.add((long) x.trace(i));
        }
        offices(x, seen);
        for (int land = 0; land <= 9; land++) {
            seen.add((long) x.land(land));
        }
        return seen;
    }

    private static void offices(PaperSky x, List<Long> seen) {
        for (int office = 0; office < 5; office++) {
            seen.add((long) x.kind(office));
            for (int what = 0; what <= 5; what++) {
                seen.add((long) x.office(office, what));
            }
        }
    }

    /** The wind of a band is told only by changing it. */
    private static void winds(PaperSky x, List<Long> seen) {
        for (int band = 0; band < 4; band++) {
            seen.add((long) x.wind(band, 2));
            x.undo();
        }
    }

    private static List<Long> undone(PaperSky x) {
        List<Long> seen = new ArrayList<>();
        for (int i = 0; i <= 24; i++) {
            long left = x.undo();
            seen.add(left);
            if (left == PaperSky.STATE) {
                return seen;
            }
            winds(x, seen);
            seen.add((long) x.count(3));
            seen.add((long) x.count(4));
            seen.add((long) x.count(5));
            seen.add((long) x.drawn(0, 1, 1));
            seen.add((long) x.drawn(9, 77, 0));
        }
        return seen;
    }

    private static List<Long> restored(PaperSky x) {
        List<Long> seen = new ArrayList<>();
        for (int k = 0; k < 2; k++) {
            seen.add((long) x.restore(k));
            seen.add((long) x.count(3));
            offices(x, seen);
            winds(x, seen);
        }
        return seen;
    }

    /** Items 0 to 4 are told by heights that fit them; the lane, by copying none to a row of each. */
    private static List<Long> rows(PaperSky x) {
        List<Long> seen = new ArrayList<>();
        x.sky();
        Check.tell(x, "w2,2,2,2,0;b0,0,0;b0,1,0;b0,2,0;b0,3,0;b0,4,0;");
        for (int row = 0; row < 8; row++) {
            long item = 0;
            for (int i = 0; i < 7 && item >= 0; i++) {
                item = itemOf(x, row, i);
                seen.add(item);
            }
        }
        for (int lane = 0; lane <= 2; lane++) {
            for (int row = 0; row < 7; row++) {
                x.row(7, lane, 0);
                seen.add((long) x.copy(row, 0, 7, 0, 0));
            }
        }
        for (int row = 0; row < 7; row++) {
            seen.add((long) x.drop(row));
        }
        return seen;
    }

    /** 9 for an item beyond 0 to 4. */
    private static long itemOf(PaperSky x, int row, int i) {
        for (int office = 0; office < 5; office++) {
            long fits = x.who(office, row, i, 1, 0);
            if (fits != 0) {
                return fits < 0 ? fits : office;
            }
        }
        return 9;
    }

    /** The tape is told by what it is read as, with an end that makes it whole. */
    private static List<Long> tape(PaperSky x) {
        List<Long> seen = new ArrayList<>();
        seen.add((long) x.count(7));
        for (int letter : BYTES_OF_REST) {
            x.feed(letter);
        }
        seen.add((long) x.sky());
        seen.add((long) x.fault());
        seen.add((long) x.count(2));
        offices(x, seen);
        winds(x, seen);
        return seen;
    }
}
