import java.lang.management.ManagementFactory;
import java.lang.reflect.Array;
import java.lang.reflect.Field;
import java.lang.reflect.Modifier;
import java.nio.charset.StandardCharsets;
import java.util.Collections;
import java.util.IdentityHashMap;
import java.util.Set;

/** All calls of a run live in one room: an object makes its rows once, and no call makes anything more. */
public final class RoomTests {
    private static final long MOST_BYTES_OF_AN_OBJECT = 100_000;
    private static final long MOST_BYTES_OF_CALLS = 2_000;
    /** The room of one run, and how many objects of the class should find place in it. */
    private static final long ROOM_FOR_OBJECTS = 600_000;
    private static final long ROOM_FOR_PARTS = 7_300_000;
    private static final int NEW_ONES = 512;

    private static final com.sun.management.ThreadMXBean THREADS =
            (com.sun.management.ThreadMXBean) ManagementFactory.getThreadMXBean();

    private static final int[][] SPELLING = text("same c k q;drop h;double;first 6;");
    private static final int[][] ONE = text("ann 1;bob 2;cec 3;dan 4;");
    private static final int[][] TWO = text("bob 5;ken 6;dan 7;");
    private static final int[][] KNOWN = text("ann;bob;ken;dan;eva;fay;gus;ida;");
    private static final int[][] WAY = text("one makes a;one turns a;one pads a 9;one sends a;two turns a;two sends a;"
            + "two makes b;two turns b;two mixes b;two sends b;one turns b;one meets a b;one sums a b;one counts b;one sends b;");
    private static final int[][] NEWCOMER = text("zoe 9");
    private static final int[][] BAD = text("one makes ?");

    private static int[][] text(String text) {
        return Put.fives((text + " ".repeat(19)).substring(0, (text.length() + 19) / 20 * 20).getBytes(StandardCharsets.ISO_8859_1));
    }

    private final Set<Object> found = Collections.newSetFromMap(new IdentityHashMap<>());
    private long parts = 0;

    public static void main(String[] args) throws Exception {
        Due due = new Due("RoomTests");
        RoomTests room = new RoomTests();
        room.look(new BothLists());
        due.holds("an object is made of " + room.found.size() + " objects and arrays", NEW_ONES * room.found.size() <= ROOM_FOR_OBJECTS);
        due.holds("they have " + room.parts + " fields and elements", NEW_ONES * room.parts <= ROOM_FOR_PARTS);
        for (int i = 0; i < 20; i++) {
            use(new BothLists());
        }
        long before = used();
        BothLists x = new BothLists();
        long made = used() - before;
        due.holds("an object takes " + made + " bytes", made <= MOST_BYTES_OF_AN_OBJECT);
        before = used();
        int sum = use(x);
        long more = used() - before;
        due.holds("its calls take " + more + " bytes (" + sum + ")", more <= MOST_BYTES_OF_CALLS);
        due.finish();
    }

    private void look(Object o) throws Exception {
        if (o == null || !found.add(o)) {
            return;
        }
        if (o.getClass().isArray()) {
            lookIntoArray(o);
            return;
        }
        for (Field field : o.getClass().getDeclaredFields()) {
            if (!Modifier.isStatic(field.getModifiers())) {
                parts++;
                field.setAccessible(true);
                if (!field.getType().isPrimitive()) {
                    look(field.get(o));
                }
            }
        }
    }

    private void lookIntoArray(Object array) throws Exception {
        int length = Array.getLength(array);
        parts += length;
        for (int i = 0; i < length && !array.getClass().getComponentType().isPrimitive(); i++) {
            look(Array.get(array, i));
        }
    }

    private static long used() {
        return THREADS.getThreadAllocatedBytes(Thread.currentThread().getId());
    }

    private static void put(BothLists x, int[][] fives) {
        for (int i = 0; i < fives.length; i++) {
            int[] f = fives[i];
            x.feed(f[0], f[1], f[2], f[3], f[4]);
        }
    }

    private static int use(BothLists x) {
        int sum = x.prime(23);
        put(x, SPELLING);
        sum += x.spelling();
        put(x, ONE);
        sum += x.list(0);
        put(x, TWO);
        sum += x.list(1);
        put(x, KNOWN);
        sum += x.known();
        put(x, WAY);
        sum += x.way();
        put(x, BAD);
        sum += x.way() + x.fault(0) + x.fault(1);
        sum += x.turning(0, 0, 7) + x.turning(1, 0, 5) + x.seed(0, 9) + x.run();
        for (int side = 0; side < 2; side++) {
            for (int what = 0; what < 4; what++) {
                sum += x.agree(side, what) + x.surely(side, what) + x.out(side, what) + x.saw(side, what);
            }
            sum += x.read(side) + x.fixed(side) + x.number(side, 1) + x.turned(side, 3, true);
            sum += (int) x.thrown(side, 30, 2) + x.strangers(side, 30, 2) + x.cheapest(side, 0);
        }
        put(x, NEWCOMER);
        sum += x.comes(1, 3) + x.goes(1, 4) + x.both(4) + x.size(1, 4, 1) + x.near() + x.unlike() + x.cost(0);
        sum += (int) x.caught(40, 9, 20, 0) + x.opened(40, 9, 1, 2) + x.count(3) + x.key(0);
        return sum;
    }
}
