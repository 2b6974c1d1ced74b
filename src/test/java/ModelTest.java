import java.lang.reflect.InvocationTargetException;
import java.lang.reflect.Method;
import java.util.ArrayDeque;
import java.util.Arrays;
import java.util.HashMap;
import java.util.Map;
import java.util.Random;

/** Made-up runs of 512 calls and more, the same each time: every answer and every throw against PlainModel's. */
public final class ModelTest {
    private static final int RUNS = 400;
    // The looks at everything in between go beyond the document's 512 calls; the class has no such limit.
    private static final int CALLS = 512;
    private static final int[] ODD = {-2, -1, 0, 7, 8, 40, 99, 100, Integer.MIN_VALUE, Integer.MAX_VALUE};

    private final Map<String, Method> real = methodsOf(TwinTuners.class);
    private final Map<String, Method> plain = methodsOf(PlainModel.class);
    private final Map<String, Integer> outcomes;
    private final ArrayDeque<String> lately = new ArrayDeque<>();
    private final TwinTuners x = new TwinTuners();
    private final PlainModel y = new PlainModel();
    private final Random random;
    private final boolean crowded;
    private int requests = 0;

    private ModelTest(int seed, Map<String, Integer> outcomes) {
        this.random = new Random(seed);
        this.crowded = seed % 2 == 0;
        this.outcomes = outcomes;
    }

    public static void main(String[] args) throws IllegalAccessException {
        Map<String, Integer> outcomes = new HashMap<>();
        for (int seed = 0; seed < RUNS && Check.isClean(); seed++) {
            new ModelTest(seed, outcomes).run(seed);
        }
        reach(outcomes);
        Check.end();
    }

    /** Runs that never come to a state, or never to a throw, would prove nothing about it. */
    private static void reach(Map<String, Integer> outcomes) {
        String[] due = {
            "state 0", "state 1", "state 2", "state 3", "state 4", "state 5", "short", "lost",
            "request IllegalArgumentException", "request IllegalStateException",
            "cancel IndexOutOfBoundsException", "cancel IllegalStateException",
            "protect IllegalStateException", "seen IllegalStateException", "erase IllegalStateException",
            "bookmark IllegalArgumentException", "bookmark IllegalStateException",
            "watch IndexOutOfBoundsException", "air IndexOutOfBoundsException",
            "ticks IllegalArgumentException", "cut IllegalArgumentException",
        };
        for (String outcome : due) {
            if (outcomes.getOrDefault(outcome, 0) < 20) {
                Check.report("the runs came only " + outcomes.get(outcome) + " times to: " + outcome);
            }
        }
    }

    private static Map<String, Method> methodsOf(Class<?> type) {
        Map<String, Method> methods = new HashMap<>();
        for (Method m : type.getDeclaredMethods()) {
            m.setAccessible(true);
            methods.put(m.getName(), m);
        }
        return methods;
    }

    private void run(int seed) throws IllegalAccessException {
        for (int call = 0; call < CALLS && Check.isClean(); call++) {
            step();
        }
        askAll();
        if (!Check.isClean()) {
            System.out.println("in run " + seed + ", lately: " + lately);
        }
    }

    private void step() throws IllegalAccessException {
        switch (random.nextInt(crowded ? 24 : 26)) {
            case 0, 1, 2 -> ask();
            case 3 -> both("cancel", request());
            case 4 -> both("protect", request(), random.nextInt(3) == 0);
            case 5 -> both("seen", request(), random.nextBoolean());
            case 6 -> both("erase", request());
            case 7 -> both("bookmark", request(), oddOr(random.nextInt(9)));
            case 8 -> both("watch", oddOr(random.nextInt(9) - 1));
            case 9, 10 -> both("air", oddOr(random.nextInt(8)), random.nextInt());
            case 11, 12, 13 -> both("tick");
            case 14, 15 -> both("ticks", oddOr(1 + random.nextInt(crowded ? 6 : 40)));
            case 16 -> cut();
            case 17 -> askAll();
            default -> look();
        }
    }

    private void ask() throws IllegalAccessException {
        int span = crowded ? 15 : 60;
        Object number = both("request", oddOr(random.nextInt(crowded ? 4 : 8)), oddOr(x.now() + random.nextInt(span)),
                oddOr(1 + random.nextInt(crowded ? 12 : 60)), oddOr(1 + random.nextInt(crowded ? 3 : 9)),
                oddOr(random.nextInt(100)));
        if (number instanceof Integer) {
            requests++;
        }
    }

    private void cut() throws IllegalAccessException {
        if (random.nextInt(3) == 0) {
            Object lost = both("cut", oddOr(x.now() + random.nextInt(random.nextInt(4) == 0 ? 80 : 6)));
            if (lost instanceof Integer && !lost.equals(0)) {
                count("lost");
            }
        }
    }

    private void look() throws IllegalAccessException {
        int request = request();
        switch (random.nextInt(9)) {
            case 0 -> both("state", request);
            case 1 -> both("planFrom", request);
            case 2 -> both("planTo", request);
            case 3 -> both("word", request, oddOr(random.nextInt(80)));
            case 4 -> both("recorded", request);
            case 5 -> both("shortBy", request);
            case 6 -> both("bookmarkAt", request, oddOr(random.nextInt(7)));
            case 7 -> both("back", oddOr(random.nextInt(33)));
            default -> both("free");
        }
    }

    private void askAll() throws IllegalAccessException {
        both("now");
        both("free");
        for (int k = 0; k <= 31; k++) {
            both("back", k);
        }
        for (int n = 0; n < requests; n++) {
            count("state " + both("state", n));
            both("planFrom", n);
            both("planTo", n);
            both("recorded", n);
            if (!both("shortBy", n).equals(0)) {
                count("short");
            }
            for (int k = 0; k < 80; k++) {
                both("word", n, k);
            }
            for (int i = 0; i < 7; i++) {
                both("bookmarkAt", n, i);
            }
        }
    }

    private int request() {
        return oddOr(requests == 0 ? 0 : Math.max(0, requests - 1 - random.nextInt(14)));
    }

    private int oddOr(int usual) {
        return random.nextInt(25) == 0 ? ODD[random.nextInt(ODD.length)] : usual;
    }

    private void count(String outcome) {
        outcomes.merge(outcome, 1, Integer::sum);
    }

    private Object both(String method, Object... args) throws IllegalAccessException {
        Object got = answer(real.get(method), x, args);
        Object due = answer(plain.get(method), y, args);
        String call = method + Arrays.toString(args);
        lately.add(call + "=" + due);
        if (lately.size() > 200) {
            lately.remove();
        }
        if (got instanceof String) {
            count(method + " " + got);
        }
        Check.same(call, String.valueOf(got), String.valueOf(due));
        return got == null ? "nothing" : got;
    }

    private static Object answer(Method method, Object on, Object[] args) throws IllegalAccessException {
        try {
            return method.invoke(on, args);
        } catch (InvocationTargetException e) {
            return e.getCause().getClass().getSimpleName();
        }
    }
}
