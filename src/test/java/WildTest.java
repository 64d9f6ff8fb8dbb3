import java.lang.reflect.InvocationTargetException;
import java.lang.reflect.Method;
import java.lang.reflect.Modifier;
import java.util.ArrayList;
import java.util.Comparator;
import java.util.List;
import java.util.Random;

/** Any arguments in any state: nothing is thrown, and the same calls give the same answers. */
public final class WildTest {
    private static final Check CHECK = new Check("WildTest");
    private static final int[] EDGES = {Integer.MIN_VALUE, Integer.MIN_VALUE + 1, -1_000_000_000, -2, -1, 0, 1, 2, 3, 4,
        5, 6, 7, 8, 9, 10, 11, 20, 21, 59, 60, 61, 99, 100, 600, 601, 1000, 1001, 9_999, 10_000, 10_001,
        1_000_000_000, 1_000_000_001, 2_000_000_000, 2_000_000_001, Integer.MAX_VALUE - 1, Integer.MAX_VALUE};

    public static void main(String[] args) throws IllegalAccessException {
        List<Method> face = new ArrayList<>();
        for (Method m : MissingMeaning.class.getDeclaredMethods()) {
            if (Modifier.isPublic(m.getModifiers())) {
                face.add(m);
            }
        }
        face.sort(Comparator.comparing(Method::getName));
        CHECK.due("methods", face.size(), 72);
        for (int seed = 0; seed < 300; seed++) {
            CHECK.that("the same calls, the same answers", played(face, seed) == played(face, seed));
        }
        CHECK.finish();
    }

    private static long played(List<Method> face, int seed) throws IllegalAccessException {
        Random r = new Random(seed);
        MissingMeaning x = new MissingMeaning();
        long sum = 0;
        for (int i = 0; i < 512; i++) {
            if (r.nextInt(60) == 0) {
                sum = sum * 31 + Books.tell(x, Oracle.random(r).text);
            }
            Method m = face.get(r.nextInt(face.size()));
            Object[] values = new Object[m.getParameterCount()];
            for (int j = 0; j < values.length; j++) {
                boolean wild = r.nextInt(4) == 0;
                int v = wild ? EDGES[r.nextInt(EDGES.length)] : r.nextInt(4);
                if (m.getParameterTypes()[j] == long.class) {
                    values[j] = wild ? r.nextLong() : (long) v;
                } else {
                    values[j] = r.nextInt(50) == 0 ? r.nextInt() : v;
                }
            }
            try {
                sum = sum * 31 + ((Number) m.invoke(x, values)).longValue();
                CHECK.that("an answer", true);
            } catch (InvocationTargetException thrown) {
                CHECK.that(m.getName() + java.util.Arrays.toString(values) + " threw " + thrown.getCause(), false);
            }
        }
        return sum;
    }
}
