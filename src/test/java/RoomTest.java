import java.lang.management.ManagementFactory;
import java.lang.reflect.Array;
import java.lang.reflect.Field;
import java.lang.reflect.Modifier;
import java.util.ArrayDeque;
import java.util.Collections;
import java.util.Deque;
import java.util.IdentityHashMap;
import java.util.Set;

/** All calls of one run live in one room: what a city takes of it is made by the constructor, and no call takes more. */
public final class RoomTest {
    private static final int MOST_OBJECTS = 160;
    private static final int MOST_ELEMENTS = 3000;
    private static final int ROUNDS = 200;

    private int objects = 0;
    private int elements = 0;

    public static void main(String[] args) throws IllegalAccessException {
        RubbleCity x = new RubbleCity();
        RoomTest first = new RoomTest();
        first.count(x);
        Check.due("objects " + first.objects, first.objects <= MOST_OBJECTS ? 1 : 0, 1);
        Check.due("elements " + first.elements, first.elements <= MOST_ELEMENTS ? 1 : 0, 1);
        fill(x);
        for (int i = 0; i < 10; i++) {
            allCalls(x);
        }
        RoomTest later = new RoomTest();
        later.count(x);
        // THE RULE tells of an ORDER that is there already, so nothing comes to these.
        Check.due("objects behind calls", later.objects, first.objects);
        Check.due("elements behind calls", later.elements, first.elements);
        nothingIsMade(x);
        Check.end();
    }

    private void count(RubbleCity x) throws IllegalAccessException {
        Set<Object> seen = Collections.newSetFromMap(new IdentityHashMap<>());
        Deque<Object> open = new ArrayDeque<>();
        open.push(x);
        while (!open.isEmpty()) {
            Object object = open.pop();
            if (seen.add(object)) {
                objects++;
                if (object.getClass().isArray()) {
                    countArray(object, open);
                } else {
                    countFields(object, open);
                }
            }
        }
    }

    private void countArray(Object array, Deque<Object> open) {
        int length = Array.getLength(array);
        elements += length;
        for (int i = 0; i < length && !array.getClass().getComponentType().isPrimitive(); i++) {
            push(Array.get(array, i), open);
        }
    }

    private void countFields(Object object, Deque<Object> open) throws IllegalAccessException {
        for (Field field : object.getClass().getDeclaredFields()) {
            if (!Modifier.isStatic(field.getModifiers())) {
                elements++;
                if (!field.getType().isPrimitive()) {
                    field.setAccessible(true);
                    push(field.get(object), open);
                }
            }
        }
    }

    private static void push(Object object, Deque<Object> open) {
        if (object != null) {
            open.push(object);
        }
    }

    private static void fill(RubbleCity x) {
        for (int p = 0; p < 20; p++) {
            x.person(p, 5, 30, p % 3);
        }
        for (int k = 0; k < 10; k++) {
            x.wall(40 + k, 0, 60 + k);
            x.room(k, 10 * k, k, 1 + k);
        }
        x.raid(5, 0, 10, 9);
        x.paper(0, 1, 0);
        Check.rule(x, "work 9 if worked<40&age>20;work 3;card 2 if hurt>0;card 1;");
        Check.rail(x, 0, 3, 45, 46, 47);
        Check.write(x, 0, 0, 1, 2, 3);
        Check.write(x, 1, 6, 5, 4, 3, 2, 1);
        Check.write(x, 2, 45, 46, 56);
    }

    /** Each call once, and nearly each of them not refused as long as there is place. */
    private static long allCalls(RubbleCity x) {
        long sum = x.image() + x.ruin(44, 3, 500) + x.person(44, 5, 30, 1) + x.moves(5, 45) + x.wall(44, 1, 20);
        sum += x.weather(5, 1) + x.tip(34) + x.row(0, 0, 44, 45) + x.rail(1, 2, 5) + x.room(44, 10, 1, 5);
        sum += x.feed(0x776f726b20353bL, 7) + x.order() + x.force(0) + x.says(0, 0) + x.run(1);
        sum += x.cellTold(44, 2) + x.kindTold(3, 0) + x.personTold(0, 6) + x.rowTold(0, 2) + x.railTold(0, 1);
        sum += x.wallTold(0, 1) + x.count(1) + x.pulls(1) + x.pull(9) + x.pullTold(0) + x.mends(6) + x.mendTold();
        sum += x.mend(1) + x.roomTold(1, 1) + x.raid(44, 1, 5, 3) + x.probe(46, 1) + x.likely(45, 0) + x.next();
        sum += x.paper(0, 0, 5) + x.burn(0) + x.owner(0, 9, 0) + x.heirs(0, 9, 0) + x.beside(9, 0) + x.clear(44, 9);
        sum += x.sheet(3, 2, 8) + x.cell(3, 1, 5) + x.copy(3, 0, 3, 1, 7) + x.people(3, 2, 0, 2) + x.taken(44, 1);
        return sum + x.back();
    }

    /** A call that made one object would show in each round; what the machine itself makes now and then does not. */
    private static void nothingIsMade(RubbleCity x) {
        if (!(ManagementFactory.getThreadMXBean() instanceof com.sun.management.ThreadMXBean threads)) {
            return;
        }
        long before = threads.getCurrentThreadAllocatedBytes();
        for (int i = 0; i < ROUNDS; i++) {
            allCalls(x);
        }
        long made = threads.getCurrentThreadAllocatedBytes() - before;
        Check.due("bytes that " + ROUNDS + " rounds made: " + made, made < 8L * ROUNDS ? 1 : 0, 1);
    }
}
