import java.lang.management.ManagementFactory;
import java.lang.reflect.Method;
import java.lang.reflect.Modifier;
import java.util.ArrayList;
import java.util.Comparator;
import java.util.List;
import java.util.Random;

/** Calls with any numbers whatever never throw, always end, and make next to nothing. */
public final class WildRuns {
    private static final int[] ODD = {Integer.MIN_VALUE, Integer.MAX_VALUE, -1001, -7, -2, -1, 0, 1, 2, 3, 4, 5, 6, 7, 10, 12, 23, 24, 25, 47, 90, 94, 95,
        96, 97, 100, 380, 399, 400, 401, 1000000, 0x66726564, 0x666C6F77, 0x73203120, 0x20202020, 0x3B3B3B3B};

    private final Random chance;
    private final List<Method> methods = new ArrayList<>();

    private WildRuns(long seed) {
        chance = new Random(seed);
        for (Method method : NineRiver.class.getDeclaredMethods()) {
            if (Modifier.isPublic(method.getModifiers())) {
                methods.add(method);
            }
        }
        methods.sort(Comparator.comparing(Method::getName));
    }

    private int number() {
        int which = chance.nextInt(10);
        return which == 0 ? chance.nextInt() : which < 6 ? chance.nextInt(24) : ODD[chance.nextInt(ODD.length)];
    }

    private void run(int calls) throws ReflectiveOperationException {
        NineRiver x = new NineRiver();
        for (int i = 0; i < calls; i++) {
            Method method = methods.get(chance.nextInt(methods.size()));
            Object[] numbers = new Object[method.getParameterCount()];
            for (int j = 0; j < numbers.length; j++) {
                numbers[j] = number();
            }
            method.invoke(x, numbers);
        }
    }

    private static void write(NineRiver x, String text) {
        x.end(0);
        for (int at = 0; at < text.length(); at += 20) {
            int[] n = new int[5];
            for (int i = 0; i < 20; i++) {
                n[i / 4] = n[i / 4] << 8 | (at + i < text.length() ? text.charAt(at + i) : 0);
            }
            x.feed(n[0], n[1], n[2], n[3], n[4]);
        }
        x.end(text.length());
    }

    private static NineRiver full() {
        NineRiver x = new NineRiver();
        write(x, "flows [cell*7+hour*5+strike]%9-4; costs [cell*3+hour]%50; bars if [cell+hour+day]%5=0; tolls cell+down; flows 2-pumped if cell%4=1");
        x.law();
        x.force(0);
        x.pump(0, 0, 23, 3, 11, 2);
        x.pump(1, 4, 20, 20, 5, 3);
        for (int i = 0; i < 10; i++) {
            x.sight(2 * i, 30 + 6 * i, 0, 1);
            x.boat(2 * i, i);
            x.job(3 * i % 24, 1 + i % 6, i);
            x.wish(2 * i, i, 20 - i, 70 + i);
            x.pour(2 * i, i, i % 4, 9);
        }
        return x;
    }

    private static void dearest(NineRiver x) {
        x.strike(5, 5, 1);
        x.pairs(0);
        x.suspects(0, 3);
        x.laundry(0);
        x.best(0, 0);
        x.best(1, 0);
        x.least(24, 0, 96, 0, 0);
        x.lovers(3, 7, 0, 0);
        x.matters(0, 0, 95, -1);
        x.week(77, 40);
        x.image(0);
        x.back(0);
        x.strike(5, 5, 0);
        x.comes(24, 0, 0);
        x.meet(0, 1, 0);
        x.set(1);
    }

    /** How many bytes a run of the dearest calls makes, so that no call makes rows of its own. */
    private static long bytesMade(int rounds) {
        if (!(ManagementFactory.getThreadMXBean() instanceof com.sun.management.ThreadMXBean threads)) {
            return 0;
        }
        NineRiver x = full();
        dearest(x);
        long before = threads.getCurrentThreadAllocatedBytes();
        for (int i = 0; i < rounds; i++) {
            dearest(x);
        }
        return threads.getCurrentThreadAllocatedBytes() - before;
    }

    public static void main(String[] args) throws ReflectiveOperationException {
        int runs = args.length > 0 ? Integer.parseInt(args[0]) : 400;
        WildRuns wild = new WildRuns(20261118);
        for (int i = 0; i < runs; i++) {
            wild.run(512);
        }
        // Far behind the 512th call nothing may be thrown either.
        wild.run(100000);
        long bytes = bytesMade(30);
        System.out.println(runs + " wild runs ended; the dearest calls made " + bytes + " bytes");
        if (bytes > 4096) {
            System.exit(1);
        }
    }
}
