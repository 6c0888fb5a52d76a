import java.lang.reflect.Array;
import java.lang.reflect.Field;
import java.lang.reflect.Modifier;
import java.util.ArrayDeque;
import java.util.Collections;
import java.util.Deque;
import java.util.IdentityHashMap;
import java.util.Set;

/** Counts the objects and fields of one inn: as calls make none, a run that makes one at every call must have room. */
public final class RoomTest {
    private static final int CALLS = 512;
    private static final int OBJECTS = 600000;
    private static final int FIELDS = 7300000;

    public static void main(String[] args) throws Exception {
        Set<Object> known = Collections.newSetFromMap(new IdentityHashMap<>());
        Deque<Object> open = new ArrayDeque<>();
        AvalancheInn inn = new AvalancheInn();
        open.add(inn);
        known.add(inn);
        long fields = 0;
        while (!open.isEmpty()) {
            Object object = open.remove();
            if (object.getClass().isArray()) {
                fields += Array.getLength(object);
                if (object instanceof Object[] parts) {
                    for (Object part : parts) {
                        if (part != null && known.add(part)) {
                            open.add(part);
                        }
                    }
                }
                continue;
            }
            for (Field field : object.getClass().getDeclaredFields()) {
                if (Modifier.isStatic(field.getModifiers())) {
                    continue;
                }
                fields++;
                field.setAccessible(true);
                Object part = field.getType().isPrimitive() ? null : field.get(object);
                if (part != null && known.add(part)) {
                    open.add(part);
                }
            }
        }
        System.out.println("an inn has " + known.size() + " objects, " + fields + " fields and elements");
        if (known.size() * (long) CALLS > OBJECTS || fields * CALLS > FIELDS) {
            System.out.println("that is too many");
            System.exit(1);
        }
    }
}
