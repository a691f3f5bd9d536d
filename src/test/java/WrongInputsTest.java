import java.lang.reflect.InvocationTargetException;
import java.lang.reflect.Method;
import java.lang.reflect.Modifier;
import java.util.ArrayList;
import java.util.Comparator;
import java.util.List;
import java.util.NoSuchElementException;
import java.util.Random;

/** Every call with any numbers in any state: it ends, and throws nothing but what the document names. */
public final class WrongInputsTest {
    private static final int[] EDGES = {Integer.MIN_VALUE, Integer.MIN_VALUE + 1, -1000, -33, -4, -3, -2, -1, 0, 1, 2, 3, 4,
        5, 7, 8, 9, 15, 16, 17, 19, 20, 21, 31, 32, 33, 39, 40, 41, 59, 60, 61, 63, 64, 65, 99, 100, 255, 256, 700, 701,
        998, 999, 1000, 9999, 10000, 99999, 100000, 65536, 1 << 20, 1 << 30, Integer.MAX_VALUE - 1, Integer.MAX_VALUE};

    public static void main(String[] args) throws ReflectiveOperationException {
        List<Method> calls = new ArrayList<>();
        for (Method m : BeatQueues.class.getDeclaredMethods()) {
            if (Modifier.isPublic(m.getModifiers())) {
                calls.add(m);
            }
        }
        calls.sort(Comparator.comparing(Method::getName));
        Check.due("calls of the face", calls.size(), 41);
        for (int seed = 0; seed < 600; seed++) {
            run(new Random(seed), calls);
        }
        everyEdge(calls);
        Check.end();
    }

    private static void run(Random random, List<Method> calls) throws ReflectiveOperationException {
        BeatQueues q = new BeatQueues();
        int busy = random.nextInt(4);
        for (int i = 0; i < 512; i++) {
            if (busy > 0 && random.nextInt(4) < busy) {
                ordinary(q, random);
                continue;
            }
            Method m = calls.get(random.nextInt(calls.size()));
            Object[] values = new Object[m.getParameterCount()];
            for (int k = 0; k < values.length; k++) {
                values[k] = random.nextInt(8) == 0 ? random.nextInt() : EDGES[random.nextInt(EDGES.length)];
            }
            ask(q, m, values);
        }
    }

    private static void ordinary(BeatQueues q, Random random) {
        switch (random.nextInt(8)) {
            case 0: q.take(); break;
            case 1: q.both(random.nextInt(1000), random.nextInt(4)); break;
            case 2: q.renew(random.nextInt(1000), random.nextInt(4)); break;
            case 3: q.cancel(random.nextInt(4)); break;
            case 4:
                if (random.nextInt(20) == 0) {
                    q.text(0);
                    Check.text(q, "row " + (1 + random.nextInt(16)) + ";levels " + (1 + random.nextInt(4)) + ";buckets "
                            + (1 + random.nextInt(8)) + " " + (1 + random.nextInt(8))
                            + ";put a 5;put b 3;both c 4;cancel a;renew b 9;take;wait;");
                }
                break;
            default: q.put(random.nextInt(1000), random.nextInt(4)); break;
        }
    }

    private static void everyEdge(List<Method> calls) throws ReflectiveOperationException {
        for (Method m : calls) {
            if (m.getParameterCount() > 3) {
                continue;
            }
            BeatQueues q = Check.told("row 16;levels 4;buckets 8 8;put a 5;put b 3;both c 4;cancel a;renew b 9;take;");
            q.run(4);
            int n = m.getParameterCount();
            for (int i = 0; i < Math.pow(EDGES.length, n); i++) {
                Object[] values = new Object[n];
                for (int k = 0, rest = i; k < n; k++, rest /= EDGES.length) {
                    values[k] = EDGES[rest % EDGES.length];
                }
                ask(q, m, values);
            }
        }
    }

    private static void ask(BeatQueues q, Method m, Object[] values) throws ReflectiveOperationException {
        String thrown = "";
        try {
            m.invoke(q, values);
        } catch (InvocationTargetException e) {
            thrown = e.getCause().getClass().getName();
        }
        String want = "";
        if (m.getName().equals("out")) {
            int machine = (Integer) values[0];
            int what = (Integer) values[1];
            if (machine < 0 || machine > 3) {
                want = IndexOutOfBoundsException.class.getName();
            } else if (what < 0 || what > 2) {
                want = NoSuchElementException.class.getName();
            }
        }
        Check.holds(m.getName() + java.util.Arrays.toString(values) + " throws " + thrown, thrown.equals(want));
    }
}
