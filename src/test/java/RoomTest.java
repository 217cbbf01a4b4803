import com.sun.management.ThreadMXBean;
import java.lang.management.ManagementFactory;
import java.lang.reflect.Array;
import java.lang.reflect.Field;
import java.lang.reflect.Modifier;
import java.util.ArrayList;
import java.util.Collections;
import java.util.IdentityHashMap;
import java.util.List;
import java.util.Set;

/** All objects of a run share one room, so an object must be small, and no call may make anything. */
public final class RoomTest {
    private static final int MOST_OBJECTS = 100;
    private static final int MOST_ELEMENTS = 3500;
    private static final int ROUNDS = 1000;
    private static int failures = 0;
    private static int calls = 0;
    private static long sum = 0;

    public static void main(String[] args) throws IllegalAccessException {
        checkSize();
        checkCalls();
        System.out.println(failures == 0 ? "the room is as due" : failures + " faults");
        if (failures != 0) {
            System.exit(1);
        }
    }

    private static void check(String what, boolean holds) {
        if (!holds) {
            failures++;
            System.out.println(what);
        }
    }

    private static void checkSize() throws IllegalAccessException {
        Set<Object> seen = Collections.newSetFromMap(new IdentityHashMap<>());
        List<Object> open = new ArrayList<>();
        open.add(new TextAsker());
        int elements = 0;
        while (!open.isEmpty()) {
            Object next = open.remove(open.size() - 1);
            if (seen.add(next)) {
                elements += next.getClass().isArray() ? openArray(next, open) : openObject(next, open);
            }
        }
        check("a new object is " + seen.size() + " objects and arrays", seen.size() <= MOST_OBJECTS);
        check("a new object has " + elements + " fields and elements", elements <= MOST_ELEMENTS);
    }

    private static int openArray(Object array, List<Object> open) {
        int length = Array.getLength(array);
        if (!array.getClass().getComponentType().isPrimitive()) {
            for (int i = 0; i < length; i++) {
                open.add(Array.get(array, i));
            }
        }
        return length;
    }

    private static int openObject(Object object, List<Object> open) throws IllegalAccessException {
        int fields = 0;
        for (Field field : object.getClass().getDeclaredFields()) {
            if (!Modifier.isStatic(field.getModifiers())) {
                fields++;
                field.setAccessible(true);
                if (!field.getType().isPrimitive()) {
                    open.add(field.get(object));
                }
            }
        }
        return fields;
    }

    /** An object takes 8 bytes at least, so that one in any call, made once a round, goes over the bound. */
    private static void checkCalls() {
        ThreadMXBean threads = (ThreadMXBean) ManagementFactory.getThreadMXBean();
        long own = Thread.currentThread().getId();
        useAll(new TextAsker());
        threads.getThreadAllocatedBytes(own);
        TextAsker[] askers = new TextAsker[ROUNDS];
        for (int i = 0; i < ROUNDS; i++) {
            askers[i] = new TextAsker();
        }
        calls = 0;
        long before = threads.getThreadAllocatedBytes(own);
        for (TextAsker asker : askers) {
            useAll(asker);
        }
        long made = threads.getThreadAllocatedBytes(own) - before;
        check(calls + " calls made " + made + " bytes", made < 8 * ROUNDS);
        check("no call answered", sum != 0);
    }

    private static void useAll(TextAsker asker) {
        tell(asker, 0, 33, 10, 2, 50);
        for (int i = 0; i < 6; i++) {
            tell(asker, 40, 30, 20 + i, 50);
        }
        tell(asker, 40, 30, 27, 50);
        tell(asker, 2, 32, 10, 50);
        tell(asker, 99, 40, 31, 10, 7, 50);
        for (int kind = 0; kind < 4; kind++) {
            for (int about = 0; about < 8; about++) {
                askAll(asker, kind, about);
            }
        }
        for (int i = 0; i < 5; i++) {
            count(asker.count(i) + asker.readings(i) + asker.told(i, 0) + asker.means(i, 0, 63), 4);
        }
        count(asker.fewest() + (asker.back() ? 1 : 0), 2);
    }

    private static void tell(TextAsker asker, int a, int b, int c, int d) {
        count((asker.sign(a) ? 1 : 0) + (asker.sign(b) ? 1 : 0) + (asker.sign(c) ? 1 : 0) + (asker.sign(d) ? 1 : 0), 4);
    }

    private static void tell(TextAsker asker, int a, int b, int c, int d, int e) {
        tell(asker, a, b, c, d);
        count(asker.sign(e) ? 1 : 0, 1);
    }

    private static void tell(TextAsker asker, int a, int b, int c, int d, int e, int f) {
        tell(asker, a, b, c, d, e);
        count(asker.sign(f) ? 1 : 0, 1);
    }

    private static void askAll(TextAsker asker, int kind, int about) {
        count(asker.answer(kind, about, 8) + asker.level(kind, about, 7) + asker.grounds(kind, about, 1), 3);
        count(asker.judge(kind, about, 9) + asker.asks(kind, about) + asker.wrong(kind, about, 0), 3);
    }

    private static void count(int answers, int more) {
        sum += answers;
        calls += more;
    }
}
