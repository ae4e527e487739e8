import java.lang.management.ManagementFactory;
import java.lang.reflect.Array;
import java.lang.reflect.Field;
import java.lang.reflect.Modifier;
import java.util.ArrayDeque;
import java.util.Collections;
import java.util.Deque;
import java.util.IdentityHashMap;
import java.util.Set;

/** Rule 12 of ../shared/LANGUAGE.md: what an object keeps, and that its calls make no more than that. */
public final class RoomTest {
    private static final int NONE = -6;
    private static final int MOST_OBJECTS = 1000, MOST_FIELDS = 10000;

    /** 73 calls that fill an object, and 99 for each round, are less than the 512 that are promised. */
    private static final int ROUNDS = 4;

    /** Less than any one method would make that is called once for each round of each object, of 16 bytes each time. */
    private static final int SHOPS = 20, MOST_BYTES = 1000;

    public static void main(String[] args) throws IllegalAccessException {
        Due due = new Due("RoomTest");
        WindowLetters x = new WindowLetters();
        fill(x);
        long[] full = kept(x);
        due.is("objects and arrays are kept, " + full[0], full[0] <= MOST_OBJECTS ? 1 : 0, 1);
        due.is("fields and elements are kept, " + full[1], full[1] <= MOST_FIELDS ? 1 : 0, 1);
        due.is("objects are seen", full[0] > 48 && full[1] > 9 * 6 ? 1 : 0, 1);
        askEverything(due, x);
        long[] later = kept(x);
        due.is("objects and arrays after more calls", later[0], full[0]);
        due.is("fields and elements after more calls", later[1], full[1]);
        allocations(due);
        due.end();
    }

    /** Comes to the most of everything that is kept; the slot 1 has a shop to go on with; 73 calls. */
    private static void fill(WindowLetters x) {
        for (int sheet = 0; sheet < 5; sheet++) {
            x.sheet(1 + sheet % 4);
        }
        x.save(1);
        x.sheet(2);
        for (int piece = 0; piece < 48; piece++) {
            x.cut(piece / 12, 0, 0, 0, piece % 12);
        }
        x.save(0);
        for (int i = 0; i < 10; i++) {
            x.put(Due.number("iltouehs"));
        }
        for (int i = 0; i < 7; i++) {
            x.clear(0);
        }
    }

    /** Each method once at least for each round, so that it does what it is for; 99 calls. */
    private static void askEverything(Due due, WindowLetters x) {
        for (int round = 0; round < ROUNDS; round++) {
            due.is("restore(1)", x.restore(1), 0);
            due.is("sheet(1)", x.sheet(1), 5);
            due.is("wipe()", x.wipe(), round == 0 ? 80 : 0);
            due.is("put(oil)", x.put(Due.number("oil")), 3);
            due.is("fault()", x.fault(), NONE);
            due.is("colours(0, 0, 1)", x.colours(0, 0, 1), 30);
            due.is("write(0, 0, 1, 0)", x.write(0, 0, 1, 0), 3);
            due.is("clear(0)", x.clear(0), 3);
            due.is("undo()", x.undo(), 5);
            due.is("cut(5, 7, 3, 6, 9)", x.cut(5, 7, 3, 6, 9), 3);
            due.is("make(1, 2, 1)", x.make(1, 2, 1), 4);
            due.is("place(4, 1, 11)", x.place(4, 1, 11), 1);
            due.is("throwAway(3)", x.throwAway(3), 11);
            due.is("scrap(5)", x.scrap(5), 115);
            due.is("save(0)", x.save(0), 5);
            for (int letter = 0; letter < 8; letter++) {
                x.manyOf(4, letter, 0);
                x.fits(4, letter);
                x.fit(4, letter, 1, 0);
            }
            for (int what = 0; what < 10; what++) {
                x.of(4, what);
                x.ofSheet(0, what);
                x.count(what);
                x.row(0, what);
                x.pane(0, what);
                x.shape(1, what, 0);
            }
        }
    }

    /** How many objects and arrays can be reached from one, and how many fields and elements they have. */
    private static long[] kept(Object first) throws IllegalAccessException {
        Set<Object> seen = Collections.newSetFromMap(new IdentityHashMap<>());
        Deque<Object> open = new ArrayDeque<>();
        seen.add(first);
        open.add(first);
        long fields = 0;
        while (!open.isEmpty()) {
            Object one = open.remove();
            if (one.getClass().isArray()) {
                fields += Array.getLength(one);
                reachElements(one, seen, open);
            } else {
                fields += reachFields(one, seen, open);
            }
        }
        return new long[] {seen.size(), fields};
    }

    private static void reachElements(Object array, Set<Object> seen, Deque<Object> open) {
        if (array.getClass().getComponentType().isPrimitive()) {
            return;
        }
        for (int i = 0; i < Array.getLength(array); i++) {
            reach(Array.get(array, i), seen, open);
        }
    }

    private static int reachFields(Object one, Set<Object> seen, Deque<Object> open) throws IllegalAccessException {
        int fields = 0;
        for (Field field : one.getClass().getDeclaredFields()) {
            if (Modifier.isStatic(field.getModifiers())) {
                continue;
            }
            fields++;
            if (!field.getType().isPrimitive()) {
                field.setAccessible(true);
                reach(field.get(one), seen, open);
            }
        }
        return fields;
    }

    private static void reach(Object one, Set<Object> seen, Deque<Object> open) {
        if (one != null && seen.add(one)) {
            open.add(one);
        }
    }

    /** A full object has made all that it will ever keep, so that its further calls make nothing. */
    private static void allocations(Due due) {
        if (!(ManagementFactory.getThreadMXBean() instanceof com.sun.management.ThreadMXBean)) {
            return;
        }
        com.sun.management.ThreadMXBean bean = (com.sun.management.ThreadMXBean) ManagementFactory.getThreadMXBean();
        if (!bean.isThreadAllocatedMemorySupported() || !bean.isThreadAllocatedMemoryEnabled()) {
            return;
        }
        WindowLetters[] shops = new WindowLetters[SHOPS];
        for (int i = 0; i < shops.length; i++) {
            shops[i] = new WindowLetters();
            fill(shops[i]);
        }
        long before = bean.getCurrentThreadAllocatedBytes();
        for (WindowLetters shop : shops) {
            askEverything(due, shop);
        }
        long made = bean.getCurrentThreadAllocatedBytes() - before;
        due.is("bytes are made by calls of full objects, " + made, made <= MOST_BYTES ? 1 : 0, 1);
    }
}
