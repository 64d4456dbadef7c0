import java.lang.reflect.Method;
import java.util.Arrays;
import java.util.List;

/**
 * Every call with all its numbers at their edges at once, each with each, against the oracle:
 * which refusal comes first when several fit, and what is answered where none does.
 */
public final class GridTest {
    private static final Check C = new Check();
    /** By a number's range: one below its least, its least, its most, one above. */
    private static final int[] OFFICES = {-1, 0, 2, 4, 5}, LANDS = {-1, 0, 3, 9, 10}, HALVES = {-1, 0, 1, 2};
    private static final int[] ROWS = {-1, 0, 1, 2, 3, 4, 7, 8};
    private static final List<String> CHANGING = List.of("row", "set", "copy", "drop", "feed", "sky", "undo", "hours",
        "burn", "send", "wind", "image", "restore", "ask");

    /** No sky; one of two offices; one of five. Rows 0 to 2 by lanes, 3 of ints with no item, 4 and on missing. */
    private static final String[] SKIES = {"", "w4,0,3,1,0;a3,6,3;l3,20,60;", "w3,4,1,0,1;b0,20,60;f9,8,9;l3,12,30;d3,1,60;a9,0,40;"};

    public static void main(String[] args) throws Exception {
        for (String text : SKIES) {
            grid(text, "row", ROWS, new int[] {-1, 0, 2, 3}, new int[] {-1, 0, 40, 41});
            grid(text, "set", ROWS, new int[] {-1, 0, 11, 12}, new int[] {-129, 127, 128, 32768, 65536});
            grid(text, "copy", ROWS, new int[] {-1, 0, 11, 12, 13}, ROWS, new int[] {-1, 0, 11, 12, 13}, new int[] {-1, 0, 1, 12, 13});
            grid(text, "drop", ROWS);
            grid(text, "feed", new int[] {-1, 0, 119, 255, 256});
            grid(text, "sky");
            grid(text, "undo");
            grid(text, "hours", new int[] {-1, 0, 1, 24, 25});
            grid(text, "burn", OFFICES, new int[] {0, 1, 3, 4, 20, 21});
            grid(text, "send", OFFICES, OFFICES, new int[] {0, 1, 3, 4, 39, 40, 60, 61});
            grid(text, "wind", new int[] {-1, 0, 3, 4}, new int[] {-1, 0, 4, 5});
            grid(text, "office", OFFICES, new int[] {-1, 0, 1, 2, 3, 4, 5, 6});
            grid(text, "land", LANDS);
            foretold(text);
            asked(text);
        }
        C.end("GridTest");
    }

    private static void foretold(String text) throws Exception {
        int[] hours = {-1, 0, 1, 60, 61};
        grid(text, "ahead", OFFICES, hours, HALVES);
        grid(text, "down", OFFICES);
        grid(text, "meet", OFFICES, OFFICES);
        grid(text, "over", LANDS, hours);
        grid(text, "above", OFFICES, LANDS, new int[] {0, 1, 12, 13}, new int[] {-1, 0, 20, 21}, new int[] {-2, -1, 0, 1, 11, 12});
        grid(text, "petition", LANDS, ROWS, new int[] {-1, 0, 4, 5, 11, 12}, new int[] {0, 1, 8, 9});
        grid(text, "ash", OFFICES, ROWS, new int[] {-1, 0, 6, 7, 11, 12}, new int[] {0, 1, 6, 7}, new int[] {-2, -1, 0, 5, 6});
        grid(text, "who", OFFICES, ROWS, new int[] {-1, 0, 1, 11, 12}, new int[] {0, 1, 12, 13}, new int[] {-1, 0, 20, 21});
        grid(text, "rule", new int[] {0, 1, 60, 61}, HALVES);
        grid(text, "lasts", OFFICES);
        grid(text, "kept", OFFICES, new int[] {0, 1, 24, 25});
        grid(text, "turned", OFFICES, LANDS, new int[] {0, 1, 12, 13}, new int[] {-1, 0, 3, 10, 11}, HALVES);
        grid(text, "drawn", hours, new int[] {0, 1, 999999, 1000000}, HALVES);
        grid(text, "image", HALVES);
        grid(text, "restore", HALVES);
    }

    private static void asked(String text) throws Exception {
        grid(text, "kind", OFFICES);
        grid(text, "as", OFFICES, new int[] {-1, 0, 1, 2, 3, 4, 5, 6});
        grid(text, "ask", OFFICES, HALVES);
        grid(text, "trace", new int[] {-1, 0, 3, 4, 15, 16});
        grid(text, "count", new int[] {-1, 0, 1, 2, 3, 4, 5, 6, 7, 8});
        grid(text, "status");
        grid(text, "fault");
    }

    private static void grid(String text, String name, int[]... numbers) throws Exception {
        Class<?>[] types = new Class<?>[numbers.length];
        Arrays.fill(types, int.class);
        Method call = PaperSky.class.getMethod(name, types);
        Method other = Oracle.class.getDeclaredMethod(name, types);
        long all = 1;
        for (int[] one : numbers) {
            all *= one.length;
        }
        boolean changes = CHANGING.contains(name);
        PaperSky x = null;
        Oracle y = null;
        for (long at = 0; at < all; at++) {
            if (changes || at % 150 == 0) {
                x = new PaperSky();
                y = new Oracle();
                make(x, y, text);
            }
            Object[] arguments = new Object[numbers.length];
            long left = at;
            for (int i = 0; i < numbers.length; i++) {
                arguments[i] = numbers[i][(int) (left % numbers[i].length)];
                left /= numbers[i].length;
            }
            String what = name + Arrays.toString(arguments) + " of '" + text + "'";
            C.due(what, ((Number) call.invoke(x, arguments)).longValue(), ((Number) other.invoke(y, arguments)).longValue());
            C.due(what + ": status", x.status(), y.status());
        }
    }

    private static void make(PaperSky x, Oracle y, String text) {
        for (int i = 0; i < text.length(); i++) {
            x.feed(text.charAt(i));
            y.feed(text.charAt(i));
        }
        x.sky();
        y.sky();
        for (int row = 0; row < 4; row++) {
            int lane = Math.min(2, row);
            x.row(row, lane, row == 3 ? 0 : 12);
            y.row(row, lane, row == 3 ? 0 : 12);
            for (int i = 0; i < 12; i++) {
                // Offices first; heights that sink by 1 from 19 on, which 20 sheets bring most kinds to.
                int item = row == 0 ? i % 2 : row == 1 ? 19 - i : i < 5 ? i : -i;
                x.set(row, i, item);
                y.set(row, i, item);
            }
        }
        x.ask(0, 0);
        y.ask(0, 0);
        x.burn(0, 1);
        y.burn(0, 1);
    }
}
