import com.sun.management.ThreadMXBean;
import java.lang.management.ManagementFactory;
import java.lang.reflect.Array;
import java.lang.reflect.Field;
import java.lang.reflect.Modifier;
import java.util.Collections;
import java.util.IdentityHashMap;
import java.util.Set;

/** "All memory is rows made once": calls keep the very rows that an object was made with, and make none besides. */
public final class RowsTest {
    private static final ThreadMXBean MEMORY = ManagementFactory.getPlatformMXBean(ThreadMXBean.class);

    private static long elements;

    private static void walk(Object from, Set<Object> seen) throws IllegalAccessException {
        if (from == null || !seen.add(from)) {
            return;
        }
        if (from.getClass().isArray()) {
            elements += Array.getLength(from);
            return;
        }
        for (Field field : from.getClass().getDeclaredFields()) {
            if (!Modifier.isStatic(field.getModifiers())) {
                elements++;
                field.setAccessible(true);
                if (!field.getType().isPrimitive()) {
                    walk(field.get(from), seen);
                }
            }
        }
    }

    private static Set<Object> rowsOf(ServiceDrawer x) throws IllegalAccessException {
        Set<Object> seen = Collections.newSetFromMap(new IdentityHashMap<>());
        elements = 0;
        walk(x, seen);
        return seen;
    }

    /** Every call of the face that is not refused, on large towns: 480 calls. */
    private static void use(ServiceDrawer x) {
        for (int seed = 0; seed < 30; seed++) {
            x.draw(seed, 20);
            x.find(3, seed, 20, 50);
            x.print();
            x.at(seed);
            x.part(seed, 4);
            x.way(seed % 11, seed % 21);
            for (int i = 0; i < 3; i++) {
                x.sign(0x73302D313A353BL, 7);
            }
            x.check();
            x.count(4);
            x.count(5);
            x.leave(61, true);
            x.leave(61, false);
            if (x.holds(4)) {
                x.shrink(4);
            }
        }
    }

    private static long bytesMadeBy(ServiceDrawer x) {
        long before = MEMORY.getCurrentThreadAllocatedBytes();
        use(x);
        return MEMORY.getCurrentThreadAllocatedBytes() - before;
    }

    private static void keepsItsRows() throws IllegalAccessException {
        ServiceDrawer x = new ServiceDrawer();
        Set<Object> before = rowsOf(x);
        // 512 objects of this kind still fit the room that all calls of a run share.
        Due.same("rows", before.size() * 512L <= 600_000 && elements * 512L <= 7_300_000 ? "few" : "many", "few");
        use(x);
        Due.same("rows", rowsOf(x).equals(before) ? "the same" : "others", "the same");
    }

    /** The least of some objects' runs: what the machine makes for itself now and then is none of the calls'. */
    private static void makesNoneBesides() {
        long least = Long.MAX_VALUE;
        for (int run = 0; run < 5; run++) {
            least = Math.min(least, bytesMadeBy(new ServiceDrawer()));
        }
        Due.same("bytes made by calls", Long.toString(least), "0");
    }

    public static void main(String[] args) throws IllegalAccessException {
        keepsItsRows();
        makesNoneBesides();
        Due.end();
    }
}
