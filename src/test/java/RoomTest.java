import java.lang.management.ManagementFactory;
import java.lang.reflect.Array;
import java.lang.reflect.Field;
import java.lang.reflect.Modifier;
import java.nio.charset.StandardCharsets;
import java.util.ArrayDeque;
import java.util.Collections;
import java.util.Deque;
import java.util.IdentityHashMap;
import java.util.Set;

/** What objects take of the one room: a new one stays small, and calls on it make nothing. */
public final class RoomTest {
    private static final long MOST_OBJECTS = 600000;
    private static final long MOST_ELEMENTS = 7300000;
    private static final int MOST_CALLS = 512;
    private static final int CALLS = 29;
    private static final byte[] LINES = (Due.chain(4) + "ways k (earns + last) * belief / 10 - year;depth 7 wrong 3;"
        + "teach found 1 clean 2 heard 3 letter 4;" + " ".repeat(20)).getBytes(StandardCharsets.ISO_8859_1);
    /** Below what a single object in every one of 512 calls would take. */
    private static final long MOST_BYTES = 2048;

    public static void main(String[] args) throws Exception {
        Due.sentence("All calls of one run live in ONE room");
        newObjects();
        Due.due("PERSONS of the text that land() reads", tell(new LotHouse()), 4 + LotHouse.NONE);
        calls();
        Due.finish();
    }

    /** Even a run that makes nothing but new objects stays within the room. */
    private static void newObjects() throws Exception {
        Set<Object> seen = Collections.newSetFromMap(new IdentityHashMap<>());
        Deque<Object> open = new ArrayDeque<>();
        open.push(new LotHouse());
        long elements = 0;
        while (!open.isEmpty()) {
            Object one = open.pop();
            if (seen.add(one)) {
                elements += one.getClass().isArray() ? openArray(one, open) : openFields(one, open);
            }
        }
        Due.due("objects of 512 new ones within the room", seen.size() * MOST_CALLS <= MOST_OBJECTS ? 1 : 0, 1);
        Due.due("elements of 512 new ones within the room", elements * MOST_CALLS <= MOST_ELEMENTS ? 1 : 0, 1);
    }

    private static int openArray(Object array, Deque<Object> open) {
        int length = Array.getLength(array);
        for (int i = 0; i < length && !array.getClass().getComponentType().isPrimitive(); i++) {
            open.push(Array.get(array, i));
        }
        return length;
    }

    private static int openFields(Object one, Deque<Object> open) throws Exception {
        int count = 0;
        for (Field field : one.getClass().getDeclaredFields()) {
            if (!Modifier.isStatic(field.getModifiers())) {
                count++;
                field.setAccessible(true);
                if (!field.getType().isPrimitive() && field.get(one) != null) {
                    open.push(field.get(one));
                }
            }
        }
        return count;
    }

    private static void calls() {
        com.sun.management.ThreadMXBean bean = (com.sun.management.ThreadMXBean) ManagementFactory.getThreadMXBean();
        for (int which = 0; which < CALLS; which++) {
            LotHouse x = ready();
            // Once ahead, so that what the machine itself makes at a first call isn't counted.
            call(x, which, 0);
            bean.getCurrentThreadAllocatedBytes();
            long before = bean.getCurrentThreadAllocatedBytes();
            for (int i = 0; i < MOST_CALLS; i++) {
                call(x, which, i);
            }
            long made = bean.getCurrentThreadAllocatedBytes() - before;
            Due.due("bytes made by call " + which + " (" + made + ") are few", made < MOST_BYTES ? 1 : 0, 1);
        }
    }

    private static LotHouse ready() {
        LotHouse x = Due.told(Due.chain(9) + "ways k (earns + last) * belief / 10 - year;depth 7 wrong 3;");
        x.image(0);
        x.year(true, 2, 2, 3);
        x.year(false, 1, 2, 2);
        Texts.feed(x, Due.chain(3));
        return x;
    }

    private static int call(LotHouse x, int which, int i) {
        switch (which) {
            case 0: return x.feed(i, i, i, i, i);
            case 1: return x.end(90 - i);
            case 2: return tell(x);
            case 3: return x.fault(i & 1);
            case 4: return x.person(i % 9, i % 6);
            case 5: return x.score(i % 9);
            case 6: return x.back(0) + x.year(true, 2, 2, 2);
            case 7: return x.sum(1 + (i & 1), i % 6);
            case 8: return x.estimate(1, i & 1);
            case 9: return x.blind();
            case 10: return x.kind(0, i & 3);
            case 11: return x.fairest();
            case 12: return x.hears(i % 9, i % 5);
            case 13: return x.did(1, i & 1);
            case 14: return x.luck(1, i & 1);
            case 15: return x.goes(1 + i % 511, 1 + i % 10, i & 1);
            case 16: return x.first(1 + i % 10, i & 1);
            case 17: return x.owed(0);
            case 18: return x.line((i & 1) == 0);
            case 19: return x.worth(i % 9);
            case 20: return x.best(i % 7, 1 + i % 3, i & 1);
            case 21: return x.known((i & 1) == 0, i % 10);
            case 22: return x.game(i % 10);
            case 23: return x.smelt(i % 9);
            case 24: return x.image(i % 3);
            case 25: return x.back(0);
            case 26: return x.seed(i);
            case 27: return x.about(i & 7);
            default: return x.year(true, -1, 20, i);
        }
    }

    /** A text with each sort of line, whole and then with a FAULT at its end. */
    private static int tell(LotHouse x) {
        x.end(0);
        feedLines(x);
        int persons = x.land();
        feedLines(x);
        x.feed(-1, -1, -1, -1, -1);
        return persons + x.land();
    }

    private static void feedLines(LotHouse x) {
        for (int i = 0; i + 20 <= LINES.length; i += 20) {
            x.feed(Texts.number(LINES, i), Texts.number(LINES, i + 4), Texts.number(LINES, i + 8),
                Texts.number(LINES, i + 12), Texts.number(LINES, i + 16));
        }
    }
}
