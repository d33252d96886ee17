import java.lang.management.ManagementFactory;
import java.lang.reflect.Method;
import java.lang.reflect.Modifier;
import java.util.ArrayList;
import java.util.Comparator;
import java.util.List;
import java.util.Random;
import java.util.Set;

/** Any arguments in any state: no call throws, what is asked changes nothing, little room is used. */
public final class WildTest {
    private static final Check CHECK = new Check();
    private static final Set<String> REFUSABLE = Set.of("car", "put", "terms", "row", "law", "habit", "force", "place",
        "slip", "undo", "day", "image", "back");
    private static final Set<String> CHANGING = Set.of("car", "put", "terms", "row", "law", "habit", "force", "place",
        "slip", "undo", "day", "image", "back", "feed", "end", "clear");
    private static final String[] TEXTS = {
        "comes since; fines 3 * stay; spares if car = 1", "throw 1 if left = 0", "comes 10 / [slot - 3]", "comes",
        "throw more if stay = 0; throw since", "fines 1000 * 1000 * 1000 * slot; spares if 1 / rain = 0 or mood > 3",
        "comes 3; comes 9 if since > 4 and not wardens = 2", "spares if ((slot = 1", "throw [[left + coin] * per] % 5"};

    private static List<Method> methods() {
        List<Method> all = new ArrayList<>();
        for (Method m : CoinsWarden.class.getDeclaredMethods()) {
            if (Modifier.isPublic(m.getModifiers())) {
                all.add(m);
            }
        }
        all.sort(Comparator.comparing(Method::getName));
        return all;
    }

    private static int wild(Random random) {
        int[] some = {Integer.MIN_VALUE, Integer.MAX_VALUE, -2, -1, 12, 13, 4095, 4096, 1_000_000, 99, 100, 400};
        int kind = random.nextInt(20);
        return kind == 0 ? random.nextInt() : kind == 1 ? some[random.nextInt(some.length)] : random.nextInt(13);
    }

    private static long call(CoinsWarden x, Method m, int[] with) throws ReflectiveOperationException {
        Object[] boxed = new Object[with.length];
        for (int n = 0; n < with.length; n++) {
            boxed[n] = with[n];
        }
        return ((Number) m.invoke(x, boxed)).longValue();
    }

    private static void wildRun(int seed, List<Method> methods) throws ReflectiveOperationException {
        Random random = new Random(seed);
        CoinsWarden x = new CoinsWarden();
        int refused = 0;
        for (int n = 0; n < 512; n++) {
            if (random.nextInt(12) == 0) {
                x.end(0);
                Check.feed(x, TEXTS[random.nextInt(TEXTS.length)]);
            }
            Method m = methods.get(random.nextInt(methods.size()));
            int[] with = new int[m.getParameterCount()];
            for (int i = 0; i < with.length; i++) {
                with[i] = wild(random);
            }
            long got = call(x, m, with);
            if (REFUSABLE.contains(m.getName())) {
                boolean was = got < 0 && !(m.getName().equals("force") && x.status() == 0);
                refused += was ? 1 : 0;
                CHECK.due("status behind " + m.getName(), x.status(), was ? got : 0);
            }
            if (!CHANGING.contains(m.getName())) {
                CHECK.due(m.getName() + " again", call(x, m, with), got);
            }
            int counted = 0;
            for (int what = 6; what <= 10; what++) {
                counted += x.count(what);
            }
            CHECK.due("refused", counted, refused);
        }
    }

    /** The dearest state there is, asked for as many calls as an object may have. */
    private static void room(List<Method> methods) throws ReflectiveOperationException {
        com.sun.management.ThreadMXBean bean = (com.sun.management.ThreadMXBean) ManagementFactory.getThreadMXBean();
        CoinsWarden x = new CoinsWarden();
        for (int n = 0; n < 6; n++) {
            Check.law(x, "comes since - 1; fines 5 + car; spares if since = 3 and stay > 4");
            Check.habit(x, "throw 1 if left = 0; throw 2 if since > 7");
            x.car(0, 11, 1, n);
            x.place(n, 20 + n);
            x.slip(n, n % 2);
        }
        x.force(5);
        for (Method m : methods) {
            if (CHANGING.contains(m.getName())) {
                continue;
            }
            Object[] with = new Object[m.getParameterCount()];
            for (int i = 0; i < with.length; i++) {
                with[i] = 1;
            }
            for (int n = 0; n < 3; n++) {
                m.invoke(x, with);
            }
            long before = bean.getThreadAllocatedBytes(Thread.currentThread().getId());
            for (int n = 0; n < 512; n++) {
                m.invoke(x, with);
            }
            long used = bean.getThreadAllocatedBytes(Thread.currentThread().getId()) - before;
            CHECK.due(m.getName() + " uses little room: " + used, used < 200_000 ? 1 : 0, 1);
        }
        long before = bean.getThreadAllocatedBytes(Thread.currentThread().getId());
        x = new CoinsWarden();
        long used = bean.getThreadAllocatedBytes(Thread.currentThread().getId()) - before;
        CHECK.due("a new object uses little room: " + used, used < 40_000 ? 1 : 0, 1);
    }

    public static void main(String[] args) throws ReflectiveOperationException {
        List<Method> methods = methods();
        CHECK.due("methods", methods.size(), 37);
        for (int seed = 0; seed < 300; seed++) {
            wildRun(seed, methods);
        }
        room(methods);
        CHECK.close("WildTest");
    }
}
