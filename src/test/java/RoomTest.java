import com.sun.management.ThreadMXBean;
import java.lang.management.ManagementFactory;
import java.lang.reflect.Method;
import java.util.Arrays;
import java.util.Comparator;
import java.util.Random;

/** That calls make nothing new, end soon, and that no arguments whatever make one throw. */
public final class RoomTest {
    private static final int[] ODD = {0, 1, -1, 2, 3, 4, 5, 7, 8, 9, 11, 12, 13, 16, 17, 18, 19, 20, 24, 25, 63, 64, 65,
        100, 101, 123, 255, 500, 501, 776, 999, 1000, 1 << 30, Integer.MAX_VALUE, Integer.MIN_VALUE,
        Integer.MAX_VALUE - 1, Integer.MIN_VALUE + 1, 0x706c6163, 0x65206120, 0x3b202020};
    private static final String DEAR = "place a;place b sees 1;place c sees 2;place d sees 3;place e;place f;place g;"
            + "place h;lane a to b;lane b to c;lane c to d;lane d to e;lane e to f;lane f to g;lane g to h;lane h to a;"
            + "lane a to e;lane b to f;lane c to g;lane d to h;cross;";

    private static final Method[] FACE = face();

    private static Method[] face() {
        Method[] all = Arrays.stream(TwoSeek.class.getDeclaredMethods())
                .filter(m -> java.lang.reflect.Modifier.isPublic(m.getModifiers())).toArray(Method[]::new);
        Arrays.sort(all, Comparator.comparing(Method::toString));
        return all;
    }

    private static Object[] arguments(Random r, Method m) {
        Class<?>[] types = m.getParameterTypes();
        Object[] args = new Object[types.length];
        for (int i = 0; i < types.length; i++) {
            int v = r.nextInt(3) == 0 ? r.nextInt(4) : r.nextInt(40) == 0 ? r.nextInt() : ODD[r.nextInt(ODD.length)];
            args[i] = types[i] == boolean.class ? (Object) r.nextBoolean() : types[i] == long.class ? (Object) (long) v : v;
        }
        return args;
    }

    /** Any calls with any arguments, on objects in any state. */
    private static void neverThrows() {
        for (int run = 0; run < 1500; run++) {
            Random r = new Random(run);
            TwoSeek x = new TwoSeek();
            if (run % 3 != 0) {
                Seek.town(x, run % 3 == 1 ? DEAR : new Texts(r).town());
            }
            if (run % 2 == 0) {
                Seek.clock(x, true, 1, 2, 3, 4, 0);
                Seek.sight(x, 1, 7, 13, 4, 0, 14, 6, 12, 3, 0, 1, 2, 3, 4, 5, 6, 7, 8);
            }
            for (int k = 0; k < 450; k++) {
                Method m = FACE[r.nextInt(FACE.length)];
                Object[] args = arguments(r, m);
                try {
                    m.invoke(x, args);
                } catch (ReflectiveOperationException e) {
                    Seek.due("run " + run + " " + m.getName() + Arrays.toString(args) + " threw " + e.getCause(), 1, 0);
                }
                boolean isFine = x.status() >= 0 && x.status() <= 11 && x.bottom() > 0 && x.top() >= 0;
                Seek.due("run " + run + " after " + m.getName() + " status and fraction", isFine, true);
            }
        }
    }

    private static void play(TwoSeek x) {
        x.agreed(3);
        x.alike(5);
        x.mean(0, 1);
        x.mean(2, 3);
        x.worst(2, 3);
        x.when(0, 0, 0, 3);
        x.judge(0, 1, 0);
        x.door(0, 1);
        x.door(2, 3);
        x.bestDrawn(2, 3, 24, 5);
        x.drawn(2, 3, 5, 24, 5);
        x.three(2, 3, 0, 123);
        x.value(1, 3, 2, 3, 0, 7, 100);
        x.chance(0);
        x.wander(5, 0, 7);
        x.same(0, 1);
        x.parted(0, 1, 0);
        x.parted(0, 1, 1);
        x.shut(3, false);
        x.marks(false);
        x.distance(0, 7);
        x.tray(0, 3, 64);
        x.pour(0, 0, 0, 1, 60);
        Seek.due("read", x.read(0, 63), 0);
        x.feed(0x706c6163, 0x65206120, 0x3b202020, 0x20202020, 0x20202020);
        x.town(21);
    }

    private static TwoSeek ready() {
        TwoSeek x = Seek.in(DEAR);
        Seek.clock(x, true, 0);
        Seek.clock(x, true, 1, 2, 3, 1, 2, 3, 3, 2, 1, 0);
        Seek.sight(x, 1, 7, 13, 4, 0, 14, 6, 12, 3, 0, 1, 2, 3, 4, 5, 6, 7, 8);
        Seek.sight(x, 2, 8, 14, 4, 0, 14, 6, 12, 3, 0, 1, 2, 3, 4, 5, 6, 7, 8);
        Seek.fill(x, 1, 2, 0, 1, 2);
        Seek.fill(x, 2, 2, 1, 2, 3);
        return x;
    }

    private static void callsMakeNothing() {
        ThreadMXBean threads = (ThreadMXBean) ManagementFactory.getThreadMXBean();
        TwoSeek x = ready();
        for (int k = 0; k < 3; k++) {
            play(x);
        }
        long self = Thread.currentThread().getId();
        long before = threads.getThreadAllocatedBytes(self);
        long between = threads.getThreadAllocatedBytes(self);
        play(x);
        long after = threads.getThreadAllocatedBytes(self);
        // the measuring itself makes a little, and so does the text of the one answer that is asked
        Seek.due("calls make new things: " + (after - between) + " bytes", after - between <= between - before + 1000, true);
    }

    private static void objectsAreSmall() {
        ThreadMXBean threads = (ThreadMXBean) ManagementFactory.getThreadMXBean();
        long self = Thread.currentThread().getId();
        new TwoSeek();
        long before = threads.getThreadAllocatedBytes(self);
        TwoSeek[] all = new TwoSeek[100];
        for (int k = 0; k < all.length; k++) {
            all[k] = new TwoSeek();
        }
        long bytes = (threads.getThreadAllocatedBytes(self) - before) / all.length;
        Seek.due("an object takes " + bytes + " bytes", bytes < 40000 && all[99].status() == 0, true);
    }

    private static void dearestCallsEnd() {
        TwoSeek x = ready();
        long start = System.nanoTime();
        for (int k = 0; k < 100; k++) {
            x.agreed(3);
            x.alike(5);
            x.door(0, 1);
            x.door(2, 3);
            x.bestDrawn(2, 3, 24, 5);
        }
        long seconds = (System.nanoTime() - start) / 1000000000L;
        Seek.due("500 dear calls take " + seconds + " seconds", seconds < 60, true);
    }

    public static void main(String[] args) {
        callsMakeNothing();
        objectsAreSmall();
        neverThrows();
        dearestCallsEnd();
        Seek.end();
    }
}
