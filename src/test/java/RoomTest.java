import java.lang.management.ManagementFactory;
import java.lang.reflect.Array;
import java.lang.reflect.Field;
import java.lang.reflect.Method;
import java.lang.reflect.Modifier;
import java.util.Collections;
import java.util.IdentityHashMap;
import java.util.Set;

/** No call makes an object, the object is small, and no arguments make a call throw. */
public final class RoomTest {
    private static final Check C = new Check();
    private static final int[] EDGES = {Integer.MIN_VALUE, Integer.MIN_VALUE + 1, -1000001, -2, -1, 0, 1, 2, 3, 4, 5, 6,
        7, 8, 9, 10, 12, 13, 20, 21, 24, 25, 40, 41, 60, 61, 99, 100, 255, 256, 999999, 1000000, Integer.MAX_VALUE - 1,
        Integer.MAX_VALUE};

    public static void main(String[] args) throws Exception {
        smallObject();
        nothingMade();
        nothingThrown(new PaperSky());
        nothingThrown(Check.skyOf("w4,0,3,1,1;b0,20,60;f9,8,9;l5,12,30;d3,1,6;a9,0,60;"));
        nothingThrown(Check.skyOf("w4,0,3,1,0;a9,0,60;"));
        C.end("RoomTest");
    }

    private static void smallObject() throws Exception {
        Set<Object> seen = Collections.newSetFromMap(new IdentityHashMap<>());
        long elements = elementsOf(new PaperSky(), seen);
        System.out.println("  a new object: " + seen.size() + " objects, " + elements + " fields and elements");
        C.isTrue("objects: " + seen.size(), seen.size() <= 400);
        C.isTrue("elements: " + elements, elements <= 8000);
    }

    private static long elementsOf(Object one, Set<Object> seen) throws Exception {
        if (one == null || !seen.add(one)) {
            return 0;
        }
        long sum = 0;
        if (one.getClass().isArray()) {
            sum = Array.getLength(one);
            for (int i = 0; !one.getClass().getComponentType().isPrimitive() && i < Array.getLength(one); i++) {
                sum += elementsOf(Array.get(one, i), seen);
            }
            return sum;
        }
        for (Field f : one.getClass().getDeclaredFields()) {
            if (Modifier.isStatic(f.getModifiers())) {
                continue;
            }
            sum++;
            if (!f.getType().isPrimitive()) {
                f.setAccessible(true);
                sum += elementsOf(f.get(one), seen);
            }
        }
        return sum;
    }

    private static void nothingMade() {
        com.sun.management.ThreadMXBean bean = (com.sun.management.ThreadMXBean) ManagementFactory.getThreadMXBean();
        PaperSky x = Check.skyOf("w4,0,3,1,1;b0,20,60;f9,8,9;l5,12,30;d3,1,6;a9,0,60;");
        allCalls(x, 20);
        long before = bean.getCurrentThreadAllocatedBytes();
        allCalls(x, 2000);
        long made = bean.getCurrentThreadAllocatedBytes() - before;
        // What the measuring itself makes is a few hundred bytes; one object a call would be 32,000.
        C.isTrue("bytes made by 2000 rounds of all calls: " + made, made < 16000);
    }

    private static void allCalls(PaperSky x, int rounds) {
        for (int i = 0; i < rounds; i++) {
            x.row(i & 7, i % 3, 12);
            x.set(i & 7, i % 12, i % 4);
            x.copy(i & 7, 0, i & 7, 3, 5);
            tellAgain(x);
            x.image(i & 1);
            x.hours(24);
            x.burn(0, 3);
            x.send(1, 0, 1);
            x.wind(i & 3, i % 5);
            x.undo();
            foretellAll(x, i);
            x.restore(i & 1);
            x.ask(i % 5, i & 1);
            x.as(i % 5, i % 6);
            x.count(i & 7);
            x.drop(i & 7);
        }
    }

    private static final String AGAIN = "w4,0,3,1,1;b0,20,60;f9,8,9;l5,12,30;d3,1,6;a9,0,60;";

    private static void tellAgain(PaperSky x) {
        for (int i = 0; i < AGAIN.length(); i++) {
            x.feed(AGAIN.charAt(i));
        }
        x.sky();
    }

    private static void foretellAll(PaperSky x, int i) {
        x.land(i % 10);
        x.ahead(i % 5, 60, 0);
        x.down(i % 5);
        x.meet(i % 5, (i + 1) % 5);
        x.over(i % 10, 60);
        x.above(i % 5, i % 10, 12, 4, i % 12);
        x.petition(i % 10, i & 7, 0, 8);
        x.ash(i % 5, i & 7, 0, 6, 0);
        x.who(i % 5, i & 7, 0, 12, 7);
        x.rule(60, 1);
        x.lasts(i % 5);
        x.kept(i % 5, 24);
        x.turned(i % 5, i % 10, 12, 3, 1);
        x.drawn(60, 1 + i, 1);
    }

    /** Each argument by all the edges, the others by all of a few. */
    private static void nothingThrown(PaperSky x) throws Exception {
        int[] few = {-1, 0, 1, 5, Integer.MAX_VALUE};
        for (Method m : PaperSky.class.getDeclaredMethods()) {
            if (!Modifier.isPublic(m.getModifiers())) {
                continue;
            }
            int n = m.getParameterCount();
            for (int at = 0; at < Math.max(1, n); at++) {
                for (int edge : EDGES) {
                    for (int others = 0; others < Math.pow(few.length, Math.max(0, n - 1)); others++) {
                        callWith(x, m, at, edge, few, others);
                    }
                }
            }
        }
    }

    private static void callWith(PaperSky x, Method m, int at, int edge, int[] few, int others) {
        Object[] arguments = new Object[m.getParameterCount()];
        int left = others;
        for (int i = 0; i < arguments.length; i++) {
            if (i == at) {
                arguments[i] = edge;
            } else {
                arguments[i] = few[left % few.length];
                left /= few.length;
            }
        }
        try {
            m.invoke(x, arguments);
        } catch (Exception e) {
            C.isTrue(m.getName() + java.util.Arrays.toString(arguments) + " threw " + e.getCause(), false);
        }
    }
}
