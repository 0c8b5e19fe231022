import java.lang.management.ManagementFactory;
import java.lang.reflect.Array;
import java.lang.reflect.Field;
import java.lang.reflect.Modifier;
import java.util.ArrayDeque;
import java.util.Deque;
import java.util.IdentityHashMap;
import java.util.Map;

/** The room that objects take: little when made, a second board at the first replay(), and none for any other call. */
public final class RoomTest {
    private static final int CALLS = 400, MOST_OBJECTS = 200, MOST_ELEMENTS = 12000, MOST_BYTES = 4096;
    private static final Check CHECK = new Check();

    public static void main(String[] args) throws IllegalAccessException {
        CueBoard x = busy();
        x.replay();
        size(x);
        callsMakeNothing();
        CHECK.end();
    }

    private static void most(String what, long got, long most) {
        System.out.println(what + ": " + got);
        CHECK.due(what + " (" + got + ", at most " + most + ")", got <= most ? 1 : 0, 1);
    }

    /** All kinds of things on the board, as large as they may be. */
    private static CueBoard busy() {
        CueBoard x = new CueBoard();
        for (int l = 0; l < 4; l++) {
            x.line(l, 64);
        }
        for (int f = 0; f < 10; f++) {
            x.fixture(f % 4, 50);
            x.patch(f, f % 4, 5 * f);
        }
        for (int g = 10; g < 13; g++) {
            x.group(0, 6);
            for (int i = 0; i < 6; i++) {
                x.member(g, i, g == 10 ? i : g - 1);
            }
        }
        for (int i = 0; i < 12; i++) {
            x.entry(0, 12, i % 3, 20 * i, 5 * (i % 2));
        }
        for (int i = 0; i < 8; i++) {
            x.list(0, 0, 1);
        }
        x.load(0, 0);
        x.point(0, 0, 0x42C80000);
        x.point(0, 255, 0x7F7FFFFF);
        x.bend(0, 0, 0);
        x.limit(0, 10);
        x.go(0);
        x.tick(5);
        return x;
    }

    private static void callsMakeNothing() {
        CueBoard x = busy();
        x.replay();
        allocated();
        long before = allocated();
        for (int i = 0; i < CALLS / 16; i++) {
            x.tick(5);
            x.back(4);
            x.replay();
            x.asks(12, 0);
            x.memberAt(12, 215);
            x.go(0);
            x.release(0);
            x.curve(0, i);
            x.at(0, 70);
            x.line(0, -1);
            x.value(0, 0, 0);
            x.playback(0, 3);
            x.told(2);
            x.wide(0, 0);
            x.stop(0);
            x.back(0);
        }
        long made = allocated() - before;
        most("bytes that " + CALLS + " calls made", made, MOST_BYTES);
    }

    private static long allocated() {
        java.lang.management.ThreadMXBean bean = ManagementFactory.getThreadMXBean();
        if (bean instanceof com.sun.management.ThreadMXBean) {
            return ((com.sun.management.ThreadMXBean) bean).getThreadAllocatedBytes(Thread.currentThread().getId());
        }
        System.out.println("this machine does not count what is made");
        return 0;
    }

    private static void size(Object root) throws IllegalAccessException {
        Map<Object, Boolean> seen = new IdentityHashMap<>();
        Deque<Object> open = new ArrayDeque<>();
        open.add(root);
        long elements = 0;
        while (!open.isEmpty()) {
            Object o = open.remove();
            if (seen.put(o, true) != null) {
                continue;
            }
            if (o.getClass().isArray()) {
                elements += Array.getLength(o);
                if (o instanceof Object[]) {
                    for (Object part : (Object[]) o) {
                        open.add(part);
                    }
                }
                continue;
            }
            for (Field field : o.getClass().getDeclaredFields()) {
                if (!Modifier.isStatic(field.getModifiers())) {
                    elements++;
                    field.setAccessible(true);
                    Object part = field.get(o);
                    if (!field.getType().isPrimitive() && part != null) {
                        open.add(part);
                    }
                }
            }
        }
        most("objects and arrays of a board that was PLAYED AGAIN", seen.size(), MOST_OBJECTS);
        most("fields and elements of it", elements, MOST_ELEMENTS);
    }
}
