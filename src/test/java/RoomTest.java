import java.lang.management.ManagementFactory;
import java.lang.reflect.Array;
import java.lang.reflect.Field;
import java.lang.reflect.Modifier;
import java.util.IdentityHashMap;
import java.util.Map;

/** What an object takes of a run's room, and that calls take nothing more. */
public final class RoomTest {
    private static long objects = 0;
    private static long places = 0;

    private RoomTest() {
    }

    public static void main(String[] args) throws IllegalAccessException {
        ReflectionWords x = new ReflectionWords();
        walk(x, new IdentityHashMap<>());
        System.out.println("one object: " + objects + " objects and arrays, " + places + " fields and elements");
        Check.due("objects and arrays are few", objects <= 100 ? 1 : 0, 1);
        Check.due("fields and elements are few", places <= 60000 ? 1 : 0, 1);
        calls(x);
        Check.due("calls make nothing", made(x) < 2000 ? 1 : 0, 1);
        Check.finish();
    }

    private static void walk(Object object, Map<Object, Object> seen) throws IllegalAccessException {
        if (object == null || seen.put(object, object) != null) {
            return;
        }
        objects++;
        if (object.getClass().isArray()) {
            places += Array.getLength(object);
            return;
        }
        for (Field field : object.getClass().getDeclaredFields()) {
            if (!Modifier.isStatic(field.getModifiers())) {
                places++;
                field.setAccessible(true);
                if (!field.getType().isPrimitive()) {
                    walk(field.get(object), seen);
                }
            }
        }
    }

    private static long made(ReflectionWords x) {
        com.sun.management.ThreadMXBean bean =
            (com.sun.management.ThreadMXBean) ManagementFactory.getThreadMXBean();
        long thread = Thread.currentThread().getId();
        bean.getThreadAllocatedBytes(thread);
        long before = bean.getThreadAllocatedBytes(thread);
        calls(x);
        return bean.getThreadAllocatedBytes(thread) - before;
    }

    /** group 4;bond a b 3;bond c d 5; */
    private static void calls(ReflectionWords x) {
        for (int i = 0; i < 20; i++) {
            x.feed(0x67726f75, 0x7020343b, 0x626f6e64, 0x20612062, 0x20333b62);
            x.feed(0x6f6e6420, 0x63206420, 0x353b2020, 0x20202020, 0x20202020);
            x.group();
            x.feed(0x61626364, 0x61626364, 0x61626364, 0x61626364, 0x61626364);
            x.element();
            x.moves(59, 0, 223);
            x.hecke(59, 59, 59, 3);
            x.r(0, 59, 3);
            x.p(0, 59, 0);
            x.cellMany(2);
            x.crookedPair(3);
            x.chains(0, 59);
            x.inside(59, 3);
            x.paths(0, 59, 30);
            x.spelled(59, 100, 3);
            x.join(7, 8, 0);
            x.pBy(3, 5, 7, 0);
            x.conjugates(9);
            x.mark(3);
            x.thin();
            x.shift(0);
            x.image(0);
            x.back(0);
            x.undo();
            x.anew();
        }
    }
}
