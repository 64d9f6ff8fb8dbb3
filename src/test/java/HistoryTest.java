import java.lang.reflect.InvocationTargetException;
import java.lang.reflect.Method;
import java.lang.reflect.Modifier;
import java.util.ArrayList;
import java.util.Arrays;
import java.util.Comparator;
import java.util.List;
import java.util.Random;

/**
 * Nothing of what was is left: an object that has had books, acts and questions answers, from a
 * new book on, as a new object does; and so does one that has gone back to an image.
 */
public final class HistoryTest {
    private static final Check CHECK = new Check("HistoryTest");
    private static final List<Method> FACE = new ArrayList<>();

    public static void main(String[] args) throws IllegalAccessException, InvocationTargetException {
        for (Method m : MissingMeaning.class.getDeclaredMethods()) {
            if (Modifier.isPublic(m.getModifiers())) {
                FACE.add(m);
            }
        }
        FACE.sort(Comparator.comparing(Method::getName));
        for (int seed = 0; seed < 700; seed++) {
            compared(seed);
        }
        CHECK.finish();
    }

    private static void compared(int seed) throws IllegalAccessException, InvocationTargetException {
        Random r = new Random(seed);
        String book = Oracle.random(r).text;
        MissingMeaning old = new MissingMeaning();
        MissingMeaning fresh = new MissingMeaning();
        boolean byImage = seed % 3 == 0;
        if (byImage) {
            Books.tell(old, book);
            old.image(2);
        }
        Books.tell(old, Oracle.random(r).text);
        for (int i = 0; i < 120; i++) {
            Method m = FACE.get(r.nextInt(FACE.size()));
            if (!m.getName().equals("image")) {
                m.invoke(old, some(r, m));
            }
        }
        old.end(0);
        if (byImage) {
            CHECK.due("back(2)", old.back(2), 0);
            Books.tell(fresh, book);
        } else {
            CHECK.due("book()", Books.tell(old, book), Books.tell(fresh, book));
        }
        level(old);
        level(fresh);
        for (int i = 0; i < 200; i++) {
            Method m = FACE.get(r.nextInt(FACE.size()));
            Object[] values = some(r, m);
            if (!m.getName().equals("fault")) {
                long want = ((Number) m.invoke(fresh, values)).longValue();
                long got = ((Number) m.invoke(old, values)).longValue();
                CHECK.due(seed + ": " + m.getName() + Arrays.toString(values) + " of " + book, got, want);
            }
        }
    }

    /** Slots and images outlive a book, so both objects are given the same. */
    private static void level(MissingMeaning x) {
        for (int k = 0; k < 3; k++) {
            x.image(k);
        }
        for (int slot = 0; slot < 4; slot++) {
            x.row(slot, slot, 2 * slot);
        }
    }

    private static Object[] some(Random r, Method m) {
        Object[] values = new Object[m.getParameterCount()];
        for (int i = 0; i < values.length; i++) {
            int v = r.nextInt(20) == 0 ? 4 + r.nextInt(96) : r.nextInt(4);
            if (m.getParameterTypes()[i] == long.class) {
                values[i] = (long) v;
            } else {
                values[i] = v;
            }
        }
        return values;
    }
}
