import com.sun.management.ThreadMXBean;
import java.lang.management.ManagementFactory;
import java.lang.reflect.Array;
import java.lang.reflect.Field;
import java.lang.reflect.Modifier;
import java.util.Collections;
import java.util.IdentityHashMap;
import java.util.Set;
import java.util.function.ToLongFunction;

/** What a run makes is small: few objects and elements for each TagReader, and nothing for any call. */
public final class RoomTest {
    private static final int MOST_OBJECTS = 60;
    private static final int MOST_ELEMENTS = 2000;
    private static final int READERS = 40;
    private static final int ROUNDS = 60;

    private static long objects = 0;
    private static long elements = 0;

    public static void main(String[] args) throws IllegalAccessException {
        aNewOneIsSmall();
        aFullOneIsNoGreater();
        callsMakeNothing();
        Check.finish("RoomTest");
    }

    private static void aNewOneIsSmall() throws IllegalAccessException {
        measure(new TagReader());
        Check.holds(objects + " objects", objects <= MOST_OBJECTS);
        Check.holds(elements + " fields and elements", elements <= MOST_ELEMENTS);
    }

    private static void aFullOneIsNoGreater() throws IllegalAccessException {
        long objectsAtFirst = objects;
        long elementsAtFirst = elements;
        TagReader x = new TagReader();
        Twins.makeFull(x);
        measure(x);
        Check.due("objects", objects, objectsAtFirst);
        Check.due("fields and elements", elements, elementsAtFirst);
    }

    private static void measure(Object root) throws IllegalAccessException {
        objects = 0;
        elements = 0;
        count(root, Collections.newSetFromMap(new IdentityHashMap<>()));
    }

    private static void count(Object one, Set<Object> met) throws IllegalAccessException {
        if (one == null || !met.add(one)) {
            return;
        }
        objects++;
        Class<?> type = one.getClass();
        if (type.isArray()) {
            elements += Array.getLength(one);
            for (int i = 0; !type.getComponentType().isPrimitive() && i < Array.getLength(one); i++) {
                count(Array.get(one, i), met);
            }
            return;
        }
        for (Field field : type.getDeclaredFields()) {
            if (!Modifier.isStatic(field.getModifiers())) {
                elements++;
                field.setAccessible(true);
                if (!field.getType().isPrimitive()) {
                    count(field.get(one), met);
                }
            }
        }
    }

    private static void callsMakeNothing() {
        makesNothing("bits", x -> x.bits(12) + x.tag(5, 9) + x.tag(9, 7) + x.tag(9, 7) + x.block(5, 7));
        makesNothing("asking", x -> x.of(0, 0) + x.hush(0, true) + x.wake() + x.ask(0, 0, 2) + x.learns(3));
        makesNothing("trees", x -> x.wake() + x.tree(0) + x.wake() + x.tree(1) + x.grown(2) + x.heard(3, 1));
        makesNothing("sets", x -> x.bits(4) + x.would(0, 65535) + x.would(1, 9) + x.most(0, 9, 0) + x.most(1, 9, 1));
        makesNothing("rules", x -> x.feed(0x6672616D6520393BL) + x.end(8) + x.rules() + x.fault() + x.rule(3));
        makesNothing("frames", x -> x.slot(3, 9, 9) + x.wake() + x.frame(9, 9) + x.shown(3) + x.all(7) + x.went(2));
        makesNothing("odds", x -> x.alone(12, 12, 3, 0) + x.mean(9, 9, 1) + x.best(5) + x.guess(1, 2, 5)
                + x.ways(16, 1, 1, 6));
        makesNothing("missing", x -> x.know(5) + x.missing(9, 9, 9) + x.seen(9, 9) + x.seed(9, 9) + x.forget());
        makesNothing("sheets", x -> x.sheet(1, 1, 40) + x.lay(1, 1, 5) + x.read(1, 1, 0, 1) + x.torn() + x.count(7));
    }

    private static void makesNothing(String name, ToLongFunction<TagReader> calls) {
        ThreadMXBean bean = (ThreadMXBean) ManagementFactory.getThreadMXBean();
        TagReader[] readers = new TagReader[READERS];
        long sum = 0;
        for (int i = 0; i < READERS; i++) {
            readers[i] = new TagReader();
            Twins.makeFull(readers[i]);
            sum += calls.applyAsLong(readers[i]);
        }
        long before = bean.getThreadAllocatedBytes(Thread.currentThread().getId());
        for (TagReader x : readers) {
            for (int i = 0; i < ROUNDS; i++) {
                sum += calls.applyAsLong(x);
            }
        }
        long made = bean.getThreadAllocatedBytes(Thread.currentThread().getId()) - before;
        // The least object has 16 bytes; what the measuring itself makes is far less than one for each round.
        Check.holds(name + " made " + made + " bytes, sum " + sum, made < 8 * READERS * ROUNDS);
    }
}
