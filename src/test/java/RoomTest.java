import java.lang.management.ManagementFactory;
import java.lang.reflect.InvocationTargetException;
import java.lang.reflect.Method;
import java.lang.reflect.Modifier;
import java.util.ArrayList;
import java.util.Comparator;
import java.util.List;
import java.util.Random;

/** What the dearest runs make, and that no arguments in any state make a call throw. */
public final class RoomTest {
    /** 7.3 million fields and elements of 4 bytes at least; a run keeps far below them. */
    private static final long MOST_BYTES = 2_000_000;
    private static int wrong = 0;

    public static void main(String[] args) throws Exception {
        dearestRuns();
        anyArguments();
        System.out.println(wrong == 0 ? "the room is kept, nothing is thrown" : wrong + " faults of room or throws");
        if (wrong != 0) System.exit(1);
    }

    private static long bytesMade() {
        return ((com.sun.management.ThreadMXBean) ManagementFactory.getThreadMXBean()).getCurrentThreadAllocatedBytes();
    }

    private static void dearestRuns() {
        for (int kind = 0; kind < 4; kind++) dearestRun(kind);
        for (int kind = 0; kind < 4; kind++) {
            long before = bytesMade();
            dearestRun(kind);
            long made = bytesMade() - before;
            if (made > MOST_BYTES) {
                wrong++;
                System.out.println("run " + kind + " makes " + made + " bytes");
            }
        }
    }

    /** 512 calls at most: the build, then by kind what to do, rides, texts, images, each time after a change. */
    private static void dearestRun(int kind) {
        CreweChange x = new CreweChange();
        for (int i = 0; i < 6; i++) x.stop(0);
        for (int i = 0; i < 12; i++) x.train(i % 6, 10 * (i % 6) + (i + 1) % 6, 600 + i, 1);
        for (int i = 0; i < 10; i++) x.guest(i % 6, 600);
        x.feed(0x77616974, 0x73203330, 0x20202020);
        x.text();
        x.aim(0, 5);
        for (int i = 0; i < 160; i++) {
            x.day(i);
            if (kind == 0) {
                x.mean(i % 6, 600);
                x.latest(i % 6, 10000);
            } else if (kind == 1) {
                x.ride(0, 500);
                x.gather(0);
            } else if (kind == 2) {
                x.feed(0x77616c6b, 0x20772b31, 0x2b312b31);
                x.text();
            } else {
                x.keep();
                x.check(30);
            }
        }
    }

    private static void anyArguments() throws Exception {
        List<Method> all = new ArrayList<>();
        for (Method m : CreweChange.class.getDeclaredMethods()) if (Modifier.isPublic(m.getModifiers())) all.add(m);
        all.sort(Comparator.comparing(Method::getName));
        int[] edges = {0, 1, 2, 3, 4, 5, 6, 9, 10, 11, 12, 24, 50, 99, 100, 600, 601, 1439, 1440, 2879, 2880, 2999, 10000, -1, -2, -100,
            CreweChange.NONE, Integer.MAX_VALUE, Integer.MIN_VALUE, Integer.MAX_VALUE - 1, 65535};
        Random random = new Random(11);
        for (int run = 0; run < 1500 && wrong < 5; run++) {
            CreweChange x = new CreweChange();
            for (int call = 0; call < 512; call++) {
                Method m = all.get(random.nextInt(all.size()));
                Object[] a = new Object[m.getParameterCount()];
                for (int i = 0; i < a.length; i++) {
                    int sort = random.nextInt(20);
                    a[i] = sort == 0 ? random.nextInt() : sort < 6 ? edges[random.nextInt(edges.length)] : random.nextInt(sort < 16 ? 6 : 700);
                }
                try {
                    m.invoke(x, a);
                } catch (InvocationTargetException e) {
                    wrong++;
                    System.out.println(m.getName() + java.util.Arrays.toString(a) + " threw " + e.getCause());
                }
            }
        }
    }
}
