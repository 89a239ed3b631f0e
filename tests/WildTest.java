import java.lang.management.ManagementFactory;
import java.lang.reflect.InvocationTargetException;
import java.lang.reflect.Method;
import java.util.Arrays;
import java.util.Comparator;

/** Runs of 512 calls with wild arguments: nothing is thrown, and all fits into one room. */
public final class WildTest {
    private static final int RUNS = 300;
    private static final int CALLS = 512;
    /** A room takes 7.3 million fields and elements; what a whole run makes stays far below. */
    private static final long ROOM = 100_000;
    private static final int[] EDGES = {Integer.MIN_VALUE, Integer.MIN_VALUE + 1, -1000000001, -121, -2, -1, 0, 1, 2, 3,
        4, 5, 6, 7, 8, 9, 11, 12, 16, 20, 32, 39, 40, 41, 50, 59, 60, 61, 98, 99, 100, 999, 1439, 9999, 65535,
        Integer.MAX_VALUE - 1, Integer.MAX_VALUE};

    private static long z = 7;

    private static int draw(int n) {
        z = z * 6364136223846793005L + 1442695040888963407L;
        return (int) ((z >>> 33) % n);
    }

    private static int number() {
        int kind = draw(4);
        return kind == 0 ? EDGES[draw(EDGES.length)] : kind == 1 ? draw(200) : draw(9);
    }

    private static Object argument(Class<?> type) {
        if (type == int.class) {
            return number();
        }
        long word = (long) number() << 32 ^ number();
        String signs = "ebmwtahfg0123456789!()|&<=>+-*/%";
        for (int i = 0; draw(2) == 0 && i < 8; i++) {
            word = word << 8 | signs.charAt(draw(signs.length()));
        }
        return word;
    }

    private static Method[] acts() {
        Method[] acts = Arrays.stream(FoxRounds.class.getDeclaredMethods())
                .filter(m -> java.lang.reflect.Modifier.isPublic(m.getModifiers()))
                .toArray(Method[]::new);
        // The order of reflection isn't the same on every machine.
        Arrays.sort(acts, Comparator.comparing(Method::getName));
        return acts;
    }

    private static void wildRun(Method[] acts) throws IllegalAccessException {
        FoxRounds x = new FoxRounds();
        StringBuilder story = new StringBuilder();
        for (int i = 0; i < CALLS; i++) {
            Method act = acts[draw(acts.length)];
            Object[] arguments = Arrays.stream(act.getParameterTypes()).map(WildTest::argument).toArray();
            story.append(act.getName()).append(Arrays.toString(arguments)).append(' ');
            try {
                act.invoke(x, arguments);
            } catch (InvocationTargetException e) {
                System.out.println(story);
                System.out.println("threw " + e.getCause());
                System.exit(1);
            }
        }
    }

    private static FoxRounds full() {
        FoxRounds x = new FoxRounds();
        for (int i = 0; i < 8; i++) {
            x.way(i % 7, 9020, 1);
        }
        for (int i = 0; i < 4; i++) {
            x.thing(10, 1);
        }
        x.set(0, 99);
        Due.text(x, 0, "(e+b>190)*(m+w*0+t*0+1)-0");
        x.sheet(0, 8, 40);
        return x;
    }

    private static int dearestCalls(FoxRounds x) {
        int sum = 0;
        for (int i = 0; i < 4; i++) {
            sum += x.mends(999, 60, 0) + x.hangs(60, 0) + x.hungry(0) + x.clock() + x.village(0) + x.check();
            sum += x.image() + x.restore() + x.voice(6, 3, 5) + x.sheet(1, 32, 40) + x.text(0) + x.ways(0);
        }
        return sum;
    }

    private static void room() {
        com.sun.management.ThreadMXBean threads =
                (com.sun.management.ThreadMXBean) ManagementFactory.getThreadMXBean();
        dearestCalls(full());
        long id = Thread.currentThread().getId();
        long before = threads.getThreadAllocatedBytes(id);
        dearestCalls(full());
        long bytes = threads.getThreadAllocatedBytes(id) - before;
        if (bytes > ROOM) {
            System.out.println("a run of the dearest calls makes " + bytes + " bytes");
            System.exit(1);
        }
    }

    public static void main(String[] args) throws IllegalAccessException {
        Method[] acts = acts();
        if (acts.length != 44 - 1 || FoxRounds.class.getFields().length != 0
                || FoxRounds.class.getConstructors().length != 1) {
            System.out.println("the face isn't the document's: " + acts.length + " public methods");
            System.exit(1);
        }
        for (int run = 0; run < RUNS; run++) {
            wildRun(acts);
        }
        room();
    }
}
