import java.lang.management.ManagementFactory;
import java.lang.reflect.Array;
import java.lang.reflect.Field;
import java.lang.reflect.Modifier;
import java.util.ArrayDeque;
import java.util.Collections;
import java.util.Deque;
import java.util.IdentityHashMap;
import java.util.Set;

/** All calls of a run live in one room: what an object is made of is counted, and calls make nothing more, but house() its people. */
public final class RoomTest {
    private static final int MOST_OBJECTS = 120;
    private static final int MOST_ELEMENTS = 2000;
    private static final int ROUNDS = 2000;
    private static final String SIX = "stair 12;guest 9;child 9;gloved 9;maid 9;guest 1;child 1;word 0 0 1 20;word 11 1 7 20";

    private static final Checks checks = new Checks();
    private static final com.sun.management.ThreadMXBean THREADS =
            (com.sun.management.ThreadMXBean) ManagementFactory.getThreadMXBean();

    public static void main(String[] args) throws IllegalAccessException {
        BanisterWord x = new BanisterWord();
        dueSmall("a new object", x);
        Checks.tell(x, SIX);
        callAll(x);
        dueSmall("a house lived in", x);
        callsMakeNothing(x);
        housesMakePeopleAlone();
        checks.end();
    }

    private static void dueSmall(String what, BanisterWord x) throws IllegalAccessException {
        Set<Object> reached = Collections.newSetFromMap(new IdentityHashMap<>());
        Deque<Object> open = new ArrayDeque<>();
        open.add(x);
        reached.add(x);
        int elements = 0;
        while (!open.isEmpty()) {
            Object one = open.removeFirst();
            elements += one.getClass().isArray() ? followArray(one, reached, open) : followFields(one, reached, open);
        }
        checks.holds(what + " has " + reached.size() + " objects", reached.size() <= MOST_OBJECTS);
        checks.holds(what + " has " + elements + " fields and elements", elements <= MOST_ELEMENTS);
    }

    private static int followArray(Object array, Set<Object> reached, Deque<Object> open) {
        int length = Array.getLength(array);
        for (int i = 0; i < length && !array.getClass().getComponentType().isPrimitive(); i++) {
            reach(Array.get(array, i), reached, open);
        }
        return length;
    }

    private static int followFields(Object one, Set<Object> reached, Deque<Object> open) throws IllegalAccessException {
        int fields = 0;
        for (Class<?> c = one.getClass(); c != Object.class; c = c.getSuperclass()) {
            for (Field f : c.getDeclaredFields()) {
                if (!Modifier.isStatic(f.getModifiers())) {
                    fields++;
                    f.setAccessible(true);
                    if (!f.getType().isPrimitive()) {
                        reach(f.get(one), reached, open);
                    }
                }
            }
        }
        return fields;
    }

    private static void reach(Object one, Set<Object> reached, Deque<Object> open) {
        if (one != null && reached.add(one)) {
            open.add(one);
        }
    }

    /** Less than the smallest object's 16 bytes a round: none is made in any of the calls. */
    private static void callsMakeNothing(BanisterWord x) {
        callAll(x);
        long before = THREADS.getCurrentThreadAllocatedBytes();
        for (int round = 0; round < ROUNDS; round++) {
            callAll(x);
        }
        long made = THREADS.getCurrentThreadAllocatedBytes() - before;
        checks.holds("calls made " + made + " bytes in " + ROUNDS + " rounds", made < ROUNDS * 16L);
    }

    /** Every call, a few of them refused; house() has a fault here, or it would make people. */
    private static void callAll(BanisterWord x) {
        x.erase();
        for (int letter = 'a'; letter <= 'z'; letter++) {
            x.write(letter);
        }
        x.fault();
        x.house();
        for (int person = -1; person <= 6; person++) {
            for (int what = 0; what <= 4; what++) {
                x.person(person, what);
                x.as(person, what);
            }
            x.down(person, 3, 5);
            x.hears(person, 11);
            x.send(person, 7);
            x.said(person, 5);
            x.up(person, 11);
            x.seen(person, 11, 5, 1);
        }
        for (int step = -1; step <= 12; step++) {
            x.rail(step, 0, 0);
            x.cover(step, 1);
            x.who(step, 5);
            x.palms(step, 1, 6, 3, 0);
        }
        x.keep(0);
        x.polish(3);
        x.night();
        x.undo();
        x.back(0);
        x.lasts(7);
        x.forget();
        x.count(5);
    }

    /** A house of six makes six people anew: objects of a head and a number, 32 bytes each at the most. */
    private static void housesMakePeopleAlone() {
        BanisterWord x = new BanisterWord();
        char[] text = SIX.toCharArray();
        long made = 0;
        for (int round = 0; round <= ROUNDS; round++) {
            for (char letter : text) {
                x.write(letter);
            }
            long before = THREADS.getCurrentThreadAllocatedBytes();
            x.house();
            made += round == 0 ? 0 : THREADS.getCurrentThreadAllocatedBytes() - before;
        }
        checks.due("the houses were told", x.count(1), 6);
        checks.holds("houses made " + made + " bytes in " + ROUNDS + " rounds", made <= ROUNDS * 6 * 32L);
    }
}
