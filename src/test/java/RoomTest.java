import com.sun.management.ThreadMXBean;
import java.lang.management.ManagementFactory;
import java.lang.reflect.Array;
import java.lang.reflect.Field;
import java.lang.reflect.Modifier;
import java.util.Collections;
import java.util.IdentityHashMap;
import java.util.Set;

/**
 * All calls of one run live in one room of 600,000 objects and 7.3 million fields and elements: an
 * object has few enough that 512 of them find room, and keeps to what its constructor made.
 */
public final class RoomTest {
    private static final int CALLS = 512, MOST_OBJECTS = 600_000, MOST_ELEMENTS = 7_300_000;
    private static final int ROUNDS = 100;

    private final Set<Object> parts = Collections.newSetFromMap(new IdentityHashMap<>());
    private int elements = 0;

    public static void main(String[] args) throws IllegalAccessException {
        CopyInserts x = new CopyInserts();
        RoomTest first = new RoomTest();
        first.count(x);
        Check.due("512 objects have few parts", CALLS * first.parts.size() < MOST_OBJECTS ? 1 : 0, 1);
        Check.due("512 objects have few elements: " + first.elements + " of one",
                CALLS * first.elements < MOST_ELEMENTS ? 1 : 0, 1);
        Check.due("its parts are seen", first.parts.size() > 1 && first.elements > 4000 ? 1 : 0, 1);
        useAll(x);
        RoomTest behind = new RoomTest();
        behind.count(x);
        Check.due("elements behind all calls", behind.elements, first.elements);
        Check.due("the parts are those of the constructor", behind.parts.equals(first.parts) ? 1 : 0, 1);
        nothingIsMadeAndDropped();
        Check.end();
    }

    /** What a call makes and drops again takes room too; the least object has 8 bytes. */
    private static void nothingIsMadeAndDropped() {
        ThreadMXBean threads = (ThreadMXBean) ManagementFactory.getThreadMXBean();
        long made = 0;
        for (int round = 0; round < ROUNDS; round++) {
            CopyInserts x = new CopyInserts();
            long before = threads.getCurrentThreadAllocatedBytes();
            useAll(x);
            made += threads.getCurrentThreadAllocatedBytes() - before;
        }
        Check.due("few bytes are made by " + ROUNDS + " runs of all calls: " + made, made < ROUNDS * 8 ? 1 : 0, 1);
    }

    private void count(Object part) throws IllegalAccessException {
        if (part == null || !parts.add(part)) {
            return;
        }
        if (part.getClass().isArray()) {
            elements += Array.getLength(part);
            countAll(part);
            return;
        }
        for (Field field : part.getClass().getDeclaredFields()) {
            if (!Modifier.isStatic(field.getModifiers())) {
                elements++;
                field.setAccessible(true);
                count(field.getType().isPrimitive() ? null : field.get(part));
            }
        }
    }

    private void countAll(Object array) throws IllegalAccessException {
        if (!array.getClass().getComponentType().isPrimitive()) {
            for (Object part : (Object[]) array) {
                count(part);
            }
        }
    }

    private static void useAll(CopyInserts x) {
        Refused.fullTexts(x);
        x.turn();
        x.costs(1, 2, 3, 4, 5);
        x.plan();
        x.rest(0, 0);
        x.moved(0);
        x.match(0, 0, 0);
        x.cut(1, 1);
        x.write();
        x.poke(0, 0);
        x.shorten(1);
        x.read();
        x.clear();
        Refused.fullPlan(x);
        x.make();
        x.write();
        x.read();
        x.empty();
        x.lay(1);
        x.cost();
        x.act(0, 4);
        x.laid(0, 0);
        x.make();
        x.made(0);
        x.isNew();
        x.code(0);
        x.of(7);
        x.at(0, 0);
    }
}
