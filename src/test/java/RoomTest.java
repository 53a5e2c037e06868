import com.sun.management.ThreadMXBean;
import java.lang.management.ManagementFactory;
import java.lang.reflect.Array;
import java.lang.reflect.Field;
import java.lang.reflect.Modifier;
import java.util.ArrayList;
import java.util.IdentityHashMap;
import java.util.List;
import java.util.Map;
import java.util.Random;

/** All calls of a run live in one room: what an object is made of is counted, and no call may make anything more. */
public final class RoomTest extends Checks {
    private static final int ROOM_FOR_OBJECTS = 600_000;
    private static final int ROOM_FOR_ELEMENTS = 7_300_000;
    // Even a run whose every call made a new object would have to fit.
    private static final int NEW_ONES = 512;

    public static void main(String[] args) throws IllegalAccessException {
        fitsTheRoom();
        callsMakeNothing();
        finish();
    }

    private static void fitsTheRoom() throws IllegalAccessException {
        Map<Object, Boolean> found = new IdentityHashMap<>();
        List<Object> open = new ArrayList<>(List.of(new EdgePile()));
        long elements = 0;
        while (!open.isEmpty()) {
            Object one = open.remove(open.size() - 1);
            if (one == null || found.put(one, true) != null) continue;
            elements += one.getClass().isArray() ? elementsOf(one, open) : fieldsOf(one, open);
        }
        System.out.println("objects and arrays " + found.size() + ", fields and elements " + elements);
        yes("objects", (long) found.size() * NEW_ONES < ROOM_FOR_OBJECTS);
        yes("elements", elements * NEW_ONES < ROOM_FOR_ELEMENTS);
    }

    private static long elementsOf(Object array, List<Object> open) {
        int length = Array.getLength(array);
        for (int i = 0; i < length && !array.getClass().getComponentType().isPrimitive(); i++) open.add(Array.get(array, i));
        return length;
    }

    private static long fieldsOf(Object one, List<Object> open) throws IllegalAccessException {
        long fields = 0;
        for (Field field : one.getClass().getDeclaredFields()) {
            if (Modifier.isStatic(field.getModifiers())) continue;
            fields++;
            if (field.getType().isPrimitive()) continue;
            field.setAccessible(true);
            open.add(field.get(one));
        }
        return fields;
    }

    private static void callsMakeNothing() {
        ThreadMXBean threads = (ThreadMXBean) ManagementFactory.getThreadMXBean();
        if (!threads.isThreadAllocatedMemorySupported()) return;
        String[] some = new String[40];
        int[][][] feeds = new int[some.length][][];
        Texts texts = new Texts(new Random(5));
        for (int i = 0; i < some.length; i++) {
            some[i] = texts.any(i % 4 == 0);
            feeds[i] = Texts.feeds(some[i]);
        }
        EdgePile x = new EdgePile();
        // Once ahead of the measuring, for classes that are loaded at their first use.
        allCalls(x, some, feeds);
        long before = threads.getCurrentThreadAllocatedBytes();
        long sum = allCalls(x, some, feeds);
        long made = threads.getCurrentThreadAllocatedBytes() - before;
        System.out.println("bytes made by calls " + made + " (answers " + sum + ")");
        yes("no call makes an object", made < 500);
    }

    private static long allCalls(EdgePile x, String[] some, int[][][] feeds) {
        long sum = 0;
        for (int i = 0; i < some.length; i++) {
            for (int[] f : feeds[i]) sum += x.feed(f[0], f[1], f[2], f[3], f[4]);
            sum += x.back(Texts.surplus(some[i])) + x.read() + x.place();
            for (int n = -1; n < 7; n++) sum += looks(x, n) + changes(x, n);
        }
        return sum;
    }

    private static long looks(EdgePile x, int n) {
        long sum = x.level(n) + x.load(n) + x.point(n, true) + x.tips(n) + x.over() + x.bears(n, 1) + x.holds(n, 1)
            + x.pushed(n) + x.takings() + x.slides(n, true) + x.out(n) + x.reach(321, false) + x.bestOrder(n + 8)
            + x.alike(n * 6, true) + x.needed(n, 3) + x.fits(3, n) + x.span(2, n, 0) + x.count(n);
        for (int what = -1; what < 7; what++) sum += x.book(n, what);
        return sum + (x.stands() ? 1 : 0);
    }

    private static long changes(EdgePile x, int n) {
        long sum = x.lay(n, -n * 5, n == 2) + x.see(n != 3) + x.lift() + x.lay(n, -9, false);
        boolean done = x.move(n, -1) | x.hold(n) | x.move(0, 2) | x.undo() | x.restore(n - 2);
        return sum + (done ? 1 : 0) + (n == 6 ? x.forget() : 0);
    }
}
