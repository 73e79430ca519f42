import java.lang.management.ManagementFactory;
import java.lang.reflect.Array;
import java.lang.reflect.Field;
import java.lang.reflect.Modifier;

/** That 512 of the dearest call, the constructor, fit in the room, and other calls make nothing. */
public final class RoomTest {
    private static final long ROOM = 7_300_000;
    private static final int CALLS = 512;

    public static void main(String[] args) throws IllegalAccessException {
        long each = elements(new ClauseCourt());
        System.out.println(each + " fields and elements in an object");
        Due.same("512 objects fit in the room", each * CALLS < ROOM, true);
        // One object of a few words a call would come to more than this.
        Due.same("calls make nothing", bytesOfCalls() < 10_000, true);
        Due.end();
    }

    private static long elements(Object object) throws IllegalAccessException {
        long elements = 0;
        for (Field field : object.getClass().getDeclaredFields()) {
            if (!Modifier.isStatic(field.getModifiers())) {
                field.setAccessible(true);
                elements += 1 + inside(field.get(object));
            }
        }
        return elements;
    }

    private static long inside(Object value) throws IllegalAccessException {
        if (value == null || value.getClass().getName().startsWith("java.")) {
            return 0;
        }
        return value.getClass().isArray() ? Array.getLength(value) : elements(value);
    }

    private static long bytesOfCalls() {
        ClauseCourt court = Due.courtOf(10);
        Due.clause(court, 1, 2, 3);
        Due.clause(court, -1, -2);
        Due.clause(court, -3, 4);
        questions(court, 500);
        com.sun.management.ThreadMXBean bean =
            (com.sun.management.ThreadMXBean) ManagementFactory.getThreadMXBean();
        long id = Thread.currentThread().getId();
        bean.getThreadAllocatedBytes(id);
        long before = bean.getThreadAllocatedBytes(id);
        questions(court, 500);
        return bean.getThreadAllocatedBytes(id) - before;
    }

    private static void questions(ClauseCourt court, int times) {
        for (int i = 0; i < times; i++) {
            court.assume(i % 10 + 1);
            court.solve();
            court.models();
            court.assume(-1);
            court.follows(4);
            court.count(5);
        }
    }
}
