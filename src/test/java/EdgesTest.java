import java.lang.reflect.InvocationTargetException;
import java.lang.reflect.Method;
import java.lang.reflect.Modifier;
import java.util.ArrayList;
import java.util.Comparator;
import java.util.List;
import java.util.NoSuchElementException;
import java.util.Random;
import java.util.Set;

/** Whatever calls are told, in whatever state, nothing is thrown but what the document names. */
public final class EdgesTest {
    private static final int RUNS = 1500;
    private static final int CALLS = 512;
    private static final Set<String> MAY_THROW = Set.of("street", "late", "row");
    private static final long[] EDGES = {Integer.MIN_VALUE, -10000, -2, -1, 0, 1, 2, 3, 4, 5, 6, 7, 11, 12, 13,
        30, 31, 63, 64, 99, 100, 127, 255, 999, 1000, 1001, 4095, 4096, Integer.MAX_VALUE};
    private static final long[] LONG_EDGES = {Long.MIN_VALUE, Long.MAX_VALUE, 999999999999L, 1000000000000L,
        1000000000001L, 59, 60, 420};
    private static final String[] TEXTS = {"0-1,5;1-2,3;2-3,4;oab;obc", "4-5,1;oabcd", "5-6,2;6-7,3;oda.b;o",
        "9-0,20;8-9,1;7-6,2", "7-8,9;0-5,5;3-8,11;oabcdefghijkl", "oabc.defg.hijkl", "o", "a*k-n%s/(w+o)", "9999",
        "k%7+(a<3)*9", "-s*s", "1/(k%3)", "\u0000\u00ff;"};

    private final Random random;
    private final StreetsStepOn x = new StreetsStepOn();

    private EdgesTest(int seed) {
        random = new Random(seed);
    }

    public static void main(String[] args) {
        List<Method> calls = new ArrayList<>();
        for (Method method : StreetsStepOn.class.getDeclaredMethods()) {
            if (Modifier.isPublic(method.getModifiers())) {
                calls.add(method);
            }
        }
        calls.sort(Comparator.comparing(Method::getName));
        int wrong = 0;
        for (int run = 0; run < RUNS && wrong < 5; run++) {
            wrong += new EdgesTest(run).go(run, calls);
        }
        System.out.println(RUNS + " runs, " + wrong + " not as due");
        if (wrong != 0) {
            System.exit(1);
        }
    }

    private int go(int run, List<Method> calls) {
        for (int i = 0; i < CALLS; i++) {
            if (random.nextInt(25) == 0) {
                Due.type(x, TEXTS[random.nextInt(TEXTS.length)]);
                if (random.nextInt(3) == 0) {
                    x.rule();
                } else {
                    x.town();
                }
            }
            Method method = calls.get(random.nextInt(calls.size()));
            Object[] told = told(method);
            try {
                method.invoke(x, told);
            } catch (InvocationTargetException e) {
                Throwable thrown = e.getCause();
                if (thrown.getClass() != NoSuchElementException.class || !MAY_THROW.contains(method.getName())) {
                    System.out.println("run " + run + ": " + method.getName() + List.of(told) + " threw " + thrown);
                    return 1;
                }
            } catch (IllegalAccessException e) {
                System.out.println(method + " can't be called");
                return 1;
            }
        }
        return 0;
    }

    private Object[] told(Method method) {
        Class<?>[] types = method.getParameterTypes();
        Object[] told = new Object[types.length];
        for (int i = 0; i < types.length; i++) {
            long value = random.nextInt(3) > 0 ? random.nextInt(4) : EDGES[random.nextInt(EDGES.length)];
            if (types[i] == long.class) {
                told[i] = random.nextInt(4) == 0 ? LONG_EDGES[random.nextInt(LONG_EDGES.length)] : value;
            } else {
                told[i] = (int) value;
            }
        }
        return told;
    }
}
