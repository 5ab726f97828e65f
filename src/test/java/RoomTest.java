import java.lang.reflect.Array;
import java.lang.reflect.Field;
import java.lang.reflect.Modifier;
import java.util.IdentityHashMap;
import java.util.Map;

/** What an object takes up: 512 new ones stay within the room of a run. */
public final class RoomTest {
    private static final int CALLS = 512;
    private static final int OBJECTS = 600000;
    private static final int ELEMENTS = 7300000;
    private static final Check CHECK = new Check();

    private final Map<Object, Object> seen = new IdentityHashMap<>();
    private int elements;

    private RoomTest() {
    }

    public static void main(String[] args) throws IllegalAccessException {
        CHECK.promise("room");
        RoomTest made = new RoomTest();
        HackneyStands x = new HackneyStands();
        made.see(x);
        report("a new object", made);
        CHECK.due("objects of 512 new ones fit", made.seen.size() * CALLS <= OBJECTS ? 1 : 0, 1);
        CHECK.due("elements of 512 new ones fit", made.elements * CALLS <= ELEMENTS ? 1 : 0, 1);
        fill(x);
        RoomTest full = new RoomTest();
        full.see(x);
        report("a full one", full);
        CHECK.due("a full one: objects", full.seen.size() <= 200 ? 1 : 0, 1);
        CHECK.due("a full one: elements", full.elements <= 20000 ? 1 : 0, 1);
        CHECK.end();
    }

    private static void report(String name, RoomTest room) {
        System.out.println(name + ": " + room.seen.size() + " objects, " + room.elements + " fields and elements");
    }

    private static void fill(HackneyStands x) {
        for (int law = 0; law < 40; law++) {
            for (int i = 0; i < 79; i++) {
                x.feed(2, 'y' | '+' << 8);
            }
            x.feed(1, 'y');
            CHECK.due("law", x.law(0, 0), law);
        }
    }

    private void see(Object thing) throws IllegalAccessException {
        if (thing == null || thing instanceof String || seen.put(thing, thing) != null) {
            return;
        }
        if (thing.getClass().isArray()) {
            elements += Array.getLength(thing);
            if (thing instanceof Object[] parts) {
                for (Object part : parts) {
                    see(part);
                }
            }
            return;
        }
        for (Field field : thing.getClass().getDeclaredFields()) {
            if (!Modifier.isStatic(field.getModifiers())) {
                elements++;
                field.setAccessible(true);
                if (!field.getType().isPrimitive()) {
                    see(field.get(thing));
                }
            }
        }
    }
}
