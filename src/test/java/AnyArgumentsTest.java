import java.lang.reflect.InvocationTargetException;
import java.lang.reflect.Method;
import java.util.ArrayList;
import java.util.Comparator;
import java.util.List;
import java.util.Random;

/** No call throws, whatever its arguments and whatever came ahead of it. */
public final class AnyArgumentsTest {
    private static final int CALLS = 512;
    private static final int RUNS = 400;
    private static final int[] ODD = {Integer.MIN_VALUE, Integer.MIN_VALUE + 1, -1000000, -10000, -401, -65, -11, -10, -9, -2, -1, 0, 1,
        2, 3, 4, 5, 6, 7, 8, 9, 10, 11, 12, 13, 14, 15, 19, 20, 21, 24, 25, 31, 32, 33, 60, 61, 63, 64, 65, 99, 100, 149, 150, 200,
        255, 256, 380, 400, 401, 999, 1000, 1001, 1023, 1024, 9999, 10000, 65536, Integer.MAX_VALUE - 19, Integer.MAX_VALUE};
    private static final String SIGNS = "turn burn when or and not house owed path to in until need birth bride at from worth go stay "
        + "again 0123456789;+-*/()<=>  \n";

    private static int wrong = 0;

    public static void main(String[] args) throws IllegalAccessException {
        List<Method> face = new ArrayList<>();
        for (Method m : LampRound.class.getDeclaredMethods()) if (java.lang.reflect.Modifier.isPublic(m.getModifiers())) face.add(m);
        // As they are told by reflection they have no order.
        face.sort(Comparator.comparing(Method::getName));
        int made = 0;
        for (Method m : face) made += eachOdd(m);
        Random random = new Random(5);
        for (int run = 0; run < RUNS && wrong < 10; run++) made += drawn(face, random);
        System.out.println(wrong == 0 ? made + " calls, none has thrown" : wrong + " calls have thrown");
        if (wrong != 0) System.exit(1);
    }

    private static void call(LampRound x, Method m, Object[] with) throws IllegalAccessException {
        try {
            m.invoke(x, with);
        } catch (InvocationTargetException e) {
            wrong++;
            System.out.println("AnyArgumentsTest: " + m.getName() + java.util.Arrays.toString(with) + " has thrown " + e.getCause());
        }
    }

    /** Each argument takes each odd value, the others being small; of two arguments all pairs. */
    private static int eachOdd(Method m) throws IllegalAccessException {
        int n = m.getParameterCount();
        int made = 0;
        LampRound x = Villages.busy();
        int left = 300;
        for (int which = 0; which < Math.max(1, n); which++) {
            for (int v : ODD) {
                for (int other : n == 2 ? ODD : new int[] {0, 1, 2}) {
                    if (left == 0) {
                        x = made / 300 % 2 == 0 ? Villages.busy() : new LampRound();
                        left = 300;
                    }
                    Object[] with = new Object[n];
                    for (int i = 0; i < n; i++)
                        with[i] = m.getParameterTypes()[i] == boolean.class ? (Object) (v % 2 == 0) : (Object) (i == which ? v : other);
                    call(x, m, with);
                    left--;
                    made++;
                }
            }
        }
        return made;
    }

    private static int drawn(List<Method> face, Random random) throws IllegalAccessException {
        LampRound x = new LampRound();
        int houses = random.nextInt(11);
        for (int i = 0; i < houses; i++) x.house(random.nextInt(64), 1 + random.nextInt(20), random.nextInt(1000));
        for (int i = houses; i < CALLS; i++) {
            Method m = face.get(random.nextInt(face.size()));
            Object[] with = new Object[m.getParameterCount()];
            for (int p = 0; p < with.length; p++) {
                boolean text = m.getName().equals("feed");
                with[p] = m.getParameterTypes()[p] == boolean.class ? (Object) random.nextBoolean() : (Object) (text ? signs(random) : number(random));
            }
            call(x, m, with);
        }
        return CALLS;
    }

    private static int number(Random random) {
        int kind = random.nextInt(4);
        return kind == 0 ? ODD[random.nextInt(ODD.length)] : kind == 1 ? random.nextInt() : random.nextInt(12);
    }

    /** Four signs that stand together in texts, or any four bytes. */
    private static int signs(Random random) {
        if (random.nextInt(30) == 0) return random.nextInt();
        int at = random.nextInt(SIGNS.length() - 3);
        return SIGNS.charAt(at) << 24 | SIGNS.charAt(at + 1) << 16 | SIGNS.charAt(at + 2) << 8 | SIGNS.charAt(at + 3);
    }
}
