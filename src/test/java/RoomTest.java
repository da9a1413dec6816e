import java.lang.management.ManagementFactory;
import java.lang.reflect.Array;
import java.lang.reflect.Field;
import java.lang.reflect.Modifier;
import java.util.ArrayDeque;
import java.util.Collections;
import java.util.Deque;
import java.util.IdentityHashMap;
import java.util.Set;

/** What an object holds, and that calls make nothing once they have been made before. */
public final class RoomTest {
    /** A run's room has some 600,000 objects and 7,300,000 elements: a hundred objects go in. */
    private static final int MOST_OBJECTS = 600000 / 100;
    private static final int MOST_ELEMENTS = 7300000 / 100;
    private static final int MOST_NEW_ELEMENTS = 6000;

    private static int objects;
    private static long elements;

    public static void main(String[] args) throws IllegalAccessException {
        Due due = new Due("RoomTest");
        LampRound x = new LampRound();
        walk(x);
        System.out.println("a new object: " + objects + " objects, " + elements + " fields and elements");
        due.yes("a new object is small", elements <= MOST_NEW_ELEMENTS);
        use(x);
        walk(x);
        System.out.println("when all was used: " + objects + " objects, " + elements + " fields and elements");
        due.yes("objects", objects <= MOST_OBJECTS);
        due.yes("elements", elements <= MOST_ELEMENTS);
        com.sun.management.ThreadMXBean threads = (com.sun.management.ThreadMXBean) ManagementFactory.getThreadMXBean();
        due.is("bytes made by calls that were made before", leastMade(threads), 0);
        due.close();
    }

    /** The least of some tries: the machine itself may make something once. */
    private static long leastMade(com.sun.management.ThreadMXBean threads) {
        long least = Long.MAX_VALUE;
        for (int i = 0; i < 5; i++) {
            LampRound x = new LampRound();
            use(x);
            long before = threads.getCurrentThreadAllocatedBytes();
            long between = threads.getCurrentThreadAllocatedBytes();
            use(x);
            long after = threads.getCurrentThreadAllocatedBytes();
            least = Math.min(least, after - between - (between - before));
        }
        return least;
    }

    private static void walk(Object root) throws IllegalAccessException {
        objects = 0;
        elements = 0;
        Set<Object> seen = Collections.newSetFromMap(new IdentityHashMap<>());
        Deque<Object> open = new ArrayDeque<>();
        open.add(root);
        while (!open.isEmpty()) {
            Object o = open.pop();
            if (!seen.add(o)) continue;
            objects++;
            if (o instanceof String) continue;
            if (o.getClass().isArray()) {
                elements += Array.getLength(o);
                if (o instanceof Object[] all) for (Object e : all) if (e != null) open.push(e);
                continue;
            }
            for (Field f : o.getClass().getDeclaredFields()) {
                if (Modifier.isStatic(f.getModifiers())) continue;
                elements++;
                f.setAccessible(true);
                Object v = f.get(o);
                if (v != null && !f.getType().isPrimitive()) open.push(v);
            }
        }
    }

    private static int[] ints(String text) {
        int[] all = new int[(text.length() + 19) / 20 * 5];
        for (int i = 0; i < all.length * 4; i++) all[i / 4] = all[i / 4] << 8 | (i < text.length() ? text.charAt(i) : 32);
        return all;
    }

    private static final String[] TEXTS = {"turn owed*10+needs-far when not (house=2 or snow>3) and oil>0;turn 0-bid;",
        "burn 2+snow when season=0;burn people;", "path 0 to 1 in 5;path 1 to 2 in 7;path 0 to 3 in 9 until 4;",
        "need birth at 1 from 0 to 9999 worth 10;need bride at 0 from 0 to 9999 worth 40;need read at 2 from 1 to 9999 worth 30;",
        "go 0;stay 1;again 3 (go 3;go 1;)"};
    private static final int[][] TAPES = new int[5][];

    static {
        for (int k = 0; k < 5; k++) TAPES[k] = ints(TEXTS[k]);
    }

    /** Every method, ordinary and wrong. */
    private static void use(LampRound x) {
        for (int h = 0; h < 10; h++) x.house(6 * h, h + 1, 99);
        for (int k = 0; k < 5; k++) {
            int[] t = TAPES[k];
            for (int i = 0; i + 4 < t.length; i += 5) x.feed(t[i], t[i + 1], t[i + 2], t[i + 3], t[i + 4]);
            x.end(TEXTS[k].length());
            x.text(k);
            x.fault(0);
        }
        x.feed(0, 0, 0, 0, 0);
        x.text(2);
        x.state(5);
        x.set(1, 0, 300);
        x.friends(0, 1, true);
        x.friends(2, 1, true);
        x.image(true);
        x.nights(20);
        x.undo();
        x.image(false);
        x.clue(0, 7);
        x.far(0, 1);
        x.need(0, 7);
        x.book(0, 0);
        x.mend(-1);
        x.rooms(0);
        x.sale(1);
        x.liars();
        x.sure(0, 1, 9);
        x.best(1, 9);
        x.ways(10);
        x.been(10, 3);
        x.ask(10, 0);
        for (int i = -1; i < 25; i++) {
            x.of(1, i);
            x.look(i);
            x.run(50, i);
            x.plan(i, 0);
        }
        x.clue(-1, 0);
    }
}
