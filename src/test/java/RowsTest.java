import java.lang.reflect.Array;
import java.lang.reflect.Field;
import java.lang.reflect.Modifier;
import java.util.Collections;
import java.util.IdentityHashMap;
import java.util.Set;

/** All memory is rows made once: after many calls an object consists of the very rows that it was made with. */
public final class RowsTest {
    private static long elements;

    private static void walk(Object from, Set<Object> seen) throws IllegalAccessException {
        if (from == null || !seen.add(from)) {
            return;
        }
        if (from.getClass().isArray()) {
            elements += Array.getLength(from);
            return;
        }
        for (Field field : from.getClass().getDeclaredFields()) {
            if (!Modifier.isStatic(field.getModifiers())) {
                elements++;
                field.setAccessible(true);
                if (!field.getType().isPrimitive()) {
                    walk(field.get(from), seen);
                }
            }
        }
    }

    private static Set<Object> rowsOf(ServiceDrawer x) throws IllegalAccessException {
        Set<Object> seen = Collections.newSetFromMap(new IdentityHashMap<>());
        elements = 0;
        walk(x, seen);
        return seen;
    }

    public static void main(String[] args) throws IllegalAccessException {
        ServiceDrawer x = new ServiceDrawer();
        Set<Object> before = rowsOf(x);
        // 512 objects of this kind still fit the room that all calls of a run share.
        Due.same("rows", before.size() * 512L <= 600_000 && elements * 512L <= 7_300_000 ? "few" : "many", "few");
        for (int seed = 0; seed < 40; seed++) {
            x.draw(seed, 20);
            x.find(3, seed, 20, 50);
            x.print();
            x.sign(seed, 1 + seed % 8);
            x.check();
            if (x.holds(4)) {
                x.shrink(4);
            }
            x.count(4);
        }
        Set<Object> after = rowsOf(x);
        Due.same("rows", after.equals(before) ? "the same" : "others", "the same");
        Due.end();
    }
}
