import java.lang.reflect.InvocationTargetException;
import java.lang.reflect.Method;
import java.util.ArrayList;
import java.util.Arrays;
import java.util.Comparator;
import java.util.List;
import java.util.Random;

/** Runs of up to 512 calls by a fixed seed: the class and the oracle must answer alike. */
public final class OracleTest {
    private static final int RUNS = 2000, CALLS = 512;
    private static final int[] FAR = {Integer.MIN_VALUE, -1000000, -2, 61, 100, 1000, 1000000, Integer.MAX_VALUE};

    private final Random random;
    private final PaperSky x = new PaperSky();
    private final Oracle y = new Oracle();
    private final List<String> calls = new ArrayList<>();

    private OracleTest(long seed) {
        random = new Random(seed);
    }

    public static void main(String[] args) throws Exception {
        Method[] face = face();
        int wrong = 0;
        for (int run = 0; run < RUNS && wrong < 5; run++) {
            wrong += new OracleTest(run).runAlike(face, run) ? 0 : 1;
        }
        System.out.println("OracleTest: " + RUNS + " runs, " + wrong + " wrong");
        if (wrong != 0) {
            System.exit(1);
        }
    }

    /** In an order of our own: reflection promises none. */
    private static Method[] face() {
        Method[] all = Arrays.stream(PaperSky.class.getDeclaredMethods())
            .filter(m -> java.lang.reflect.Modifier.isPublic(m.getModifiers())).toArray(Method[]::new);
        Arrays.sort(all, Comparator.comparing(Method::getName));
        if (all.length != 35) {
            throw new IllegalStateException("methods: " + all.length);
        }
        return all;
    }

    private boolean runAlike(Method[] face, int run) throws Exception {
        for (int i = 0; i < CALLS; i++) {
            boolean alike;
            boolean tells = i == 0 ? run % 10 != 0 : random.nextInt(run % 4 == 0 ? 20 : 150) == 0;
            if (tells) {
                alike = textAlike(run % 3 == 0 && i != 0 ? 2 : 20);
                i += 59;
            } else {
                Method m = face[random.nextInt(face.length)];
                if (m.getName().equals("sky") || m.getName().equals("restore") && random.nextInt(4) != 0) {
                    m = face[random.nextInt(face.length)];
                }
                alike = callAlike(m, argumentsOf(m));
            }
            if (!alike) {
                int from = Math.max(0, calls.size() - 60);
                System.out.println("run " + run + ": " + calls.subList(from, calls.size()));
                return false;
            }
        }
        return true;
    }

    private boolean callAlike(Method m, Object[] arguments) throws Exception {
        Method other = Oracle.class.getDeclaredMethod(m.getName(), m.getParameterTypes());
        Object got;
        try {
            got = m.invoke(x, arguments);
        } catch (InvocationTargetException e) {
            got = e.getCause();
        }
        Object want = other.invoke(y, arguments);
        String call = m.getName() + Arrays.toString(arguments) + " = " + got;
        boolean alike = got.equals(want);
        calls.add(alike ? call : call + ", due is " + want);
        return alike;
    }

    /** A sky's text, now and then with a byte of it changed, left out or put in. */
    private boolean textAlike(int faultless) throws Exception {
        StringBuilder text = new StringBuilder("w");
        for (int band = 0; band < 4; band++) {
            text.append(random.nextInt(5)).append(',');
        }
        text.append(random.nextInt(4)).append(';');
        for (int o = 1 + random.nextInt(5); o > 0; o--) {
            text.append("bflda".charAt(random.nextInt(5))).append(random.nextInt(10)).append(',')
                .append(random.nextInt(21)).append(',').append(random.nextInt(61)).append(';');
        }
        if (random.nextInt(faultless) == 0) {
            spoil(text);
        }
        Method feed = PaperSky.class.getMethod("feed", int.class);
        for (int i = 0; i < text.length(); i++) {
            if (!callAlike(feed, new Object[] {(int) text.charAt(i)})) {
                return false;
            }
        }
        return callAlike(PaperSky.class.getMethod("sky"), new Object[0])
            && callAlike(PaperSky.class.getMethod("fault"), new Object[0]);
    }

    private void spoil(StringBuilder text) {
        String bytes = "bfldaw0123456789,;x \u00ff";
        int at = random.nextInt(text.length());
        char put = bytes.charAt(random.nextInt(bytes.length()));
        switch (random.nextInt(4)) {
            case 0:
                text.setCharAt(at, put);
                break;
            case 1:
                text.insert(at, put);
                break;
            case 2:
                text.deleteCharAt(at);
                break;
            default:
                text.setLength(at);
        }
    }

    private Object[] argumentsOf(Method m) {
        Object[] a = new Object[m.getParameterCount()];
        int[] range = rangesOf(m.getName());
        for (int i = 0; i < a.length; i++) {
            int least = range[2 * i];
            int most = range[2 * i + 1];
            int kind = random.nextInt(200);
            if (kind < 2) {
                a[i] = FAR[random.nextInt(FAR.length)];
            } else if (kind < 4) {
                a[i] = least - 1;
            } else if (kind < 6) {
                a[i] = most + 1;
            } else if (kind < 12) {
                a[i] = most;
            } else {
                a[i] = least + random.nextInt(most - least + 1);
            }
        }
        toldHeights(m, a);
        return a;
    }

    /** The least and the most of each argument; rows, places and offices are kept few, so that they meet. */
    private int[] rangesOf(String name) {
        int o = Math.max(0, y.count(1) - 1);
        switch (name) {
            case "row": return new int[] {0, 3, 0, 2, 0, 12};
            case "set": return new int[] {0, 3, 0, 5, random.nextInt(8) == 0 ? -70000 : 0, random.nextInt(8) == 0 ? 70000 : o};
            case "copy": return new int[] {0, 3, 0, 4, 0, 3, 0, 4, 0, 5};
            case "drop": return new int[] {0, 7};
            case "feed": return new int[] {0, 255};
            case "hours": return new int[] {1, random.nextInt(3) == 0 ? 24 : 3};
            case "burn": return new int[] {0, o, 1, random.nextInt(3) == 0 ? 20 : 4};
            case "send": return new int[] {0, o, 0, o, 1, random.nextInt(2) == 0 ? 60 : 9};
            case "wind": return new int[] {0, 3, 0, 4};
            case "office": return new int[] {0, o, 0, 5};
            case "land": return new int[] {0, 9};
            case "ahead": return new int[] {0, o, 0, 60, 0, 1};
            case "meet": return new int[] {0, o, 0, o};
            case "over": return new int[] {0, 9, 0, 60};
            case "above": return new int[] {0, o, 0, 9, 1, 12, 0, random.nextInt(2) == 0 ? 20 : 6, -1, 12};
            case "petition": return new int[] {0, 9, 0, 3, 0, 3, 1, random.nextInt(2) == 0 ? 8 : 3};
            case "ash": return new int[] {0, o, 0, 3, 0, 4, 1, 6, -1, 6};
            case "who": return new int[] {0, o, 0, 3, 0, 4, 1, 12, 0, 20};
            case "rule": return new int[] {1, 60, 0, 1};
            case "kept": return new int[] {0, o, 1, 24};
            case "turned": return new int[] {0, o, 0, 9, 1, 12, 0, 10, 0, 1};
            case "drawn": return new int[] {0, 60, 1, 999999, 0, 1};
            case "image": case "restore": return new int[] {0, 1};
            case "as": return new int[] {0, o, 0, 5};
            case "ask": return new int[] {0, o, 0, 1};
            case "trace": return new int[] {0, 7};
            case "count": return new int[] {0, 7};
            default: return new int[] {0, o};
        }
    }

    /** Heights told by chance hardly ever fit: half of them are taken from what is foretold. */
    private void toldHeights(Method m, Object[] a) {
        boolean ash = m.getName().equals("ash");
        if (!ash && !m.getName().equals("who") || random.nextInt(2) == 0 || y.count(1) == 0) {
            return;
        }
        int office = random.nextInt(y.count(1));
        int n = 1 + random.nextInt(ash ? 6 : 12);
        int height = y.office(office, 1);
        int lift = random.nextInt(4);
        int sheets = random.nextInt(4);
        height = Math.min(20, height + lift * sheets);
        x.row(3, 2, n);
        y.row(3, 2, n);
        for (int j = 0; j < n; j++) {
            height = Math.max(0, height - y.count(2));
            x.set(3, j, height);
            y.set(3, j, height);
            height = ash && random.nextInt(3) == 0 ? Math.min(20, height + random.nextInt(3) * Math.max(1, y.office(office, 5))) : height;
        }
        Object[] fit = {office, 3, 0, n, ash ? random.nextInt(n + 2) - 1 : sheets};
        System.arraycopy(fit, 0, a, 0, a.length);
    }
}
