import com.sun.management.ThreadMXBean;
import java.lang.management.ManagementFactory;
import java.lang.reflect.Array;
import java.lang.reflect.Field;
import java.lang.reflect.Modifier;
import java.util.IdentityHashMap;
import java.util.Map;

/** What an object holds stays small, and calls make no objects: all calls of a run live in one room. */
public final class RoomTest {
    private static final int MOST_OBJECTS = 200;
    private static final int MOST_ELEMENTS = 80000;

    public static void main(String[] args) throws Exception {
        OneLine x = new OneLine();
        dear(x);
        ThreadMXBean threads = (ThreadMXBean) ManagementFactory.getThreadMXBean();
        long id = Thread.currentThread().getId();
        threads.getThreadAllocatedBytes(id);
        long before = threads.getThreadAllocatedBytes(id);
        int answers = dear(x);
        long made = threads.getThreadAllocatedBytes(id) - before;
        Map<Object, Boolean> seen = new IdentityHashMap<>();
        long elements = count(x, seen);
        System.out.println(seen.size() + " objects, " + elements + " fields and elements; dear calls made "
            + made + " bytes (answers " + answers + ")");
        boolean fits = seen.size() <= MOST_OBJECTS && elements <= MOST_ELEMENTS && made < 1000;
        System.out.println(fits ? "it fits the room" : "it is too much for the room");
        System.exit(fits ? 0 : 1);
    }

    /** The calls that reckon most. */
    private static int dear(OneLine x) {
        feedBook(x);
        int sum = x.bounds(24, 7, 15);
        sum += x.draw(24, 28, 5) + x.ways(2) + x.ways(3) + x.ways(4) + x.unlike() + x.alike(7);
        sum += x.signs(0) + x.mottos(0) + x.common(0) + x.meant(4, 0) + x.rule(0, true) + x.wrong(444, -1);
        sum += x.image() + x.round(444) + x.shortest(444, 4) + x.make(444, 6, 4) + x.richest(4, 2, 1);
        return sum + x.broken(84, 444, 3) + x.together(84, 444, 1) + x.span(444, true) + x.unlike();
    }

    private static void feedBook(OneLine x) {
        // "bad when gap = 5 and not (climb + 2) * 3 > 7;motto a when all;" without a text being made
        x.feed(0x62616420, 0x7768656e, 0x20676170, 0x203d2035, 0x20616e64);
        x.feed(0x206e6f74, 0x2028636c, 0x696d6220, 0x2b203229, 0x202a2033);
        x.feed(0x203e2037, 0x3b6d6f74, 0x746f2061, 0x20776865, 0x6e20616c);
        x.feed(0x6c3b2020, 0x20202020, 0x20202020, 0x20202020, 0x20202020);
        if (x.book() != 2) {
            throw new IllegalStateException("the book was refused at " + x.fault(1));
        }
    }

    /** Fields and elements of all that an object holds. */
    private static long count(Object object, Map<Object, Boolean> seen) throws IllegalAccessException {
        if (object == null || seen.put(object, true) != null) {
            return 0;
        }
        if (object.getClass().isArray()) {
            return Array.getLength(object);
        }
        long found = 0;
        for (Field field : object.getClass().getDeclaredFields()) {
            if (Modifier.isStatic(field.getModifiers())) {
                continue;
            }
            found++;
            if (!field.getType().isPrimitive()) {
                field.setAccessible(true);
                found += count(field.get(object), seen);
            }
        }
        return found;
    }
}
