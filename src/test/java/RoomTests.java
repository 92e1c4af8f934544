import java.lang.reflect.Array;
import java.lang.reflect.Field;
import java.lang.reflect.Modifier;
import java.util.ArrayList;
import java.util.Collections;
import java.util.IdentityHashMap;
import java.util.List;
import java.util.Set;

/** What an object keeps: all of it is made with it, and hundreds of objects find room beside one another. */
public final class RoomTests {
    private static final int OBJECTS_OF_THE_ROOM = 600_000;
    private static final int PLACES_OF_THE_ROOM = 7_300_000;
    private static final int OBJECTS_AT_ONCE = 500;

    private RoomTests() {
    }

    public static void main(String[] args) throws IllegalAccessException {
        int[] fresh = count(new HillBends());
        Checks.holds("something is kept", fresh[0] > 10 && fresh[1] > 400);
        Checks.holds("objects and arrays: " + fresh[0], fresh[0] <= OBJECTS_OF_THE_ROOM / OBJECTS_AT_ONCE);
        Checks.holds("fields and elements: " + fresh[1], fresh[1] <= PLACES_OF_THE_ROOM / OBJECTS_AT_ONCE);
        HillBends x = used();
        Checks.is("objects and arrays behind calls", count(x)[0], fresh[0]);
        Checks.is("fields and elements behind calls", count(x)[1], fresh[1]);
        Checks.close("RoomTests");
    }

    private static HillBends used() {
        HillBends x = Bounds.midway();
        for (int i = 0; i < 30; i++) {
            Checks.rule(x, "ask ones - twos + bend * night if [ not heap = 3 or passed > here ] and asks < 4");
            x.force(i % 6);
            x.night();
            x.climb(i % 2);
            x.bag(1, -1);
            x.downwards(0, -1);
            x.ruled(0);
            x.look(60, 0);
            x.gifts(-1);
            x.years(10, 60, 1);
            x.partner(0, 0);
            x.less(0, 0);
            x.image(i % 4);
            x.note(i, 0, 0);
        }
        return x;
    }

    /** Objects and arrays that are reached, and their fields and elements. */
    private static int[] count(HillBends x) throws IllegalAccessException {
        Set<Object> seen = Collections.newSetFromMap(new IdentityHashMap<>());
        List<Object> open = new ArrayList<>();
        open.add(x);
        int places = 0;
        while (!open.isEmpty()) {
            Object next = open.remove(open.size() - 1);
            if (seen.add(next)) {
                places += next.getClass().isArray() ? elements(next, open) : fields(next, open);
            }
        }
        return new int[] {seen.size(), places};
    }

    private static int elements(Object array, List<Object> open) {
        int length = Array.getLength(array);
        for (int i = 0; i < length && !array.getClass().getComponentType().isPrimitive(); i++) {
            open.add(Array.get(array, i));
        }
        return length;
    }

    private static int fields(Object object, List<Object> open) throws IllegalAccessException {
        int many = 0;
        for (Field field : object.getClass().getDeclaredFields()) {
            if (!Modifier.isStatic(field.getModifiers())) {
                many++;
                field.setAccessible(true);
                Object value = field.get(object);
                if (value != null && !field.getType().isPrimitive()) {
                    open.add(value);
                }
            }
        }
        return many;
    }
}
