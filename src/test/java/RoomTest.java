import java.lang.management.ManagementFactory;
import java.lang.reflect.Array;
import java.lang.reflect.Field;
import java.lang.reflect.Modifier;
import java.util.Collections;
import java.util.IdentityHashMap;
import java.util.Set;

/** What an object and its calls take of the room: little when it is made, nothing behind that. */
public final class RoomTest {
    private static final Check CHECK = new Check("RoomTest");
    private static final String FULL = "book odds 5 stock 9;" + "sense give 1;sense take 1;sense double;".repeat(3)
            + "land;rule turn 0 1 2;rule swap 3 4;rule turn 5 6 7;rule turn 7 8 9;rule rest;rule rest;rule rest;"
            + "land;rule shift 1;land;" + "text 0 1 2 3 4 5 6 7;text 9 8 7 6 5 4;".repeat(3);

    public static void main(String[] args) throws IllegalAccessException {
        objectIsSmall();
        callsMakeNothing();
        CHECK.finish();
    }

    private static void objectIsSmall() throws IllegalAccessException {
        Set<Object> seen = Collections.newSetFromMap(new IdentityHashMap<>());
        long parts = counted(new MissingMeaning(), seen);
        System.out.println("RoomTest: an object is " + seen.size() + " objects and arrays with " + parts + " parts");
        CHECK.that("few objects", seen.size() < 150);
        CHECK.that("few fields and elements", parts < 12_000);
    }

    private static long counted(Object o, Set<Object> seen) throws IllegalAccessException {
        if (o == null || !seen.add(o)) {
            return 0;
        }
        long parts = 0;
        if (o.getClass().isArray()) {
            parts += Array.getLength(o);
            for (int i = 0; i < Array.getLength(o) && !o.getClass().getComponentType().isPrimitive(); i++) {
                parts += counted(Array.get(o, i), seen);
            }
            return parts;
        }
        for (Field f : o.getClass().getDeclaredFields()) {
            if (!Modifier.isStatic(f.getModifiers())) {
                parts++;
                f.setAccessible(true);
                if (!f.getType().isPrimitive()) {
                    parts += counted(f.get(o), seen);
                }
            }
        }
        return parts;
    }

    private static void callsMakeNothing() {
        com.sun.management.ThreadMXBean threads =
                (com.sun.management.ThreadMXBean) ManagementFactory.getThreadMXBean();
        MissingMeaning x = new MissingMeaning();
        long sum = 0;
        long took = 0;
        for (int i = 0; i < 20; i++) {
            Books.type(x, FULL);
            long before = threads.getThreadAllocatedBytes(Thread.currentThread().getId());
            sum += calls(x);
            took = threads.getThreadAllocatedBytes(Thread.currentThread().getId()) - before;
        }
        System.out.println("RoomTest: the last calls took " + took + " bytes (" + sum + ")");
        CHECK.that("the calls make nothing", took < 2_000);
    }

    private static long calls(MissingMeaning x) {
        long sum = x.book() + x.round(0);
        sum += x.image(0) + x.swaps(0, 1, 2) + x.image(1) + x.back(0) + x.back(1) + x.stock(5);
        sum += x.row(0, 2, 0) + x.torn(0, 0) + x.ask(0, 0) + x.leaves(0, 0) + x.date(0, 0, 5) + x.lands(0, 7);
        sum += x.wording(0, 0, 7, 77) + x.wordings(0, 0, 1, 11) + x.worded(0, 0, 2, 10, 0);
        sum += x.sorts(0, 0) + x.best(0, 0, 1000, 0) + x.alike(0, 1, 10_000) + x.differ(0, 0) + x.better(0, 0, 0);
        sum += x.heirs(0, 0) + x.takes(0, 0) + x.greedy(0, 0) + x.luck(1, 20, 0, 0, 0) + x.all(0, 0);
        sum += x.chance(0, 0, 0, 7, 0) + x.mean(0, 0, 0, 7, 0) + x.average(0, 0, 0) + x.run(0, 0) + x.like(0, 1, 1);
        sum += x.mute(0) + x.may(0, 0) + x.first(0, 0, 0, 9999) + x.again(0, 0, 0) + x.turned(0, 0, 7) + x.anew();
        sum += x.row(1, 3, 60) + x.write(1, 0, 7) + x.paste(1, 0, 1, 1, 59) + x.count(9);
        return sum;
    }
}
