import java.lang.reflect.Array;
import java.lang.reflect.Field;
import java.lang.reflect.Modifier;
import java.util.ArrayDeque;
import java.util.Collections;
import java.util.Deque;
import java.util.IdentityHashMap;
import java.util.Set;

/** All calls of a run share one room: what an object of the class holds is small, and no call makes it more. */
public final class RoomTest {
    /** The room of 600,000 objects and 7.3 million fields and elements, if each of 512 calls made a new one. */
    private static final int MOST_OBJECTS = 600000 / 512;
    private static final int MOST_CELLS = 7300000 / 512;

    private static int objects;
    private static int cells;

    public static void main(String[] args) throws IllegalAccessException {
        count(Edge.bare());
        int objectsOfNew = objects;
        int cellsOfNew = cells;
        Due.isTrue(objects + " objects are few", objects > 1 && objects <= MOST_OBJECTS);
        Due.isTrue(cells + " fields and elements are few", cells > objects && cells <= MOST_CELLS);
        count(Edge.full());
        Due.is("objects of the fullest town", objects, objectsOfNew);
        Due.is("fields and elements of the fullest town", cells, cellsOfNew);
        Due.end();
    }

    private static void count(Object root) throws IllegalAccessException {
        objects = 0;
        cells = 0;
        Set<Object> seen = Collections.newSetFromMap(new IdentityHashMap<>());
        Deque<Object> left = new ArrayDeque<>();
        left.add(root);
        while (!left.isEmpty()) {
            Object one = left.remove();
            if (!seen.add(one)) {
                continue;
            }
            objects++;
            if (one.getClass().isArray()) {
                countArray(one, left);
            } else {
                countFields(one, left);
            }
        }
    }

    private static void countArray(Object array, Deque<Object> left) {
        int length = Array.getLength(array);
        cells += length;
        if (array instanceof Object[] parts) {
            for (Object part : parts) {
                if (part != null) {
                    left.add(part);
                }
            }
        }
    }

    private static void countFields(Object one, Deque<Object> left) throws IllegalAccessException {
        for (Field f : one.getClass().getDeclaredFields()) {
            if (Modifier.isStatic(f.getModifiers())) {
                continue;
            }
            cells++;
            f.setAccessible(true);
            Object part = f.get(one);
            if (!f.getType().isPrimitive() && part != null) {
                left.add(part);
            }
        }
    }
}
