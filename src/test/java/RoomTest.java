import java.lang.reflect.Array;
import java.lang.reflect.Field;
import java.lang.reflect.Modifier;
import java.util.ArrayDeque;
import java.util.Deque;
import java.util.IdentityHashMap;
import java.util.Map;

/**
 * How much room an object takes, all that it holds counted: the same when it is new and behind its
 * last call, and so little that a run may make hundreds of them.
 */
public final class RoomTest {
    private static final int MOST_OBJECTS = 100;
    private static final int MOST_ELEMENTS = 4000;

    public static void main(String[] args) throws IllegalAccessException {
        StreetsStepOn x = new StreetsStepOn();
        int[] before = room(x);
        use(x);
        int[] after = room(x);
        System.out.println(before[0] + " objects and arrays, " + before[1] + " fields and elements");
        boolean same = before[0] == after[0] && before[1] == after[1];
        if (!same || before[0] > MOST_OBJECTS || before[1] > MOST_ELEMENTS) {
            System.out.println("too much room, or more behind the calls: " + after[0] + ", " + after[1]);
            System.exit(1);
        }
    }

    private static void use(StreetsStepOn x) {
        Due.town(x, TermsBoundaries.streets(6) + ";oabc;oab;oacb;odef");
        for (int i = 0; i < 12; i++) {
            x.letter(i % 6, i);
            x.wish(3, i % 6, i % 6);
        }
        Due.rule(x, "k%7+(a<3)*9");
        for (int i = 0; i < 20; i++) {
            x.keep(i % 2);
            x.asks(0, 0, 59);
            x.roots(0, 2);
            x.choose(63);
            x.proof();
            x.postman(30);
            x.sends(i % 12);
            x.travels(i % 12, i);
            x.round(0, 63, 9);
            x.walk(0, 63);
            x.meet(4095);
            x.soonest();
            x.cycles(0);
            x.again(i % 2);
        }
        x.decree(0);
    }

    private static int[] room(Object root) throws IllegalAccessException {
        Map<Object, Boolean> met = new IdentityHashMap<>();
        Deque<Object> left = new ArrayDeque<>();
        left.add(root);
        met.put(root, true);
        int elements = 0;
        while (!left.isEmpty()) {
            Object one = left.remove();
            if (one.getClass().isArray()) {
                elements += Array.getLength(one);
                for (int i = 0; i < Array.getLength(one) && !one.getClass().getComponentType().isPrimitive(); i++) {
                    meet(Array.get(one, i), met, left);
                }
                continue;
            }
            for (Field field : one.getClass().getDeclaredFields()) {
                if (!Modifier.isStatic(field.getModifiers())) {
                    elements++;
                    field.setAccessible(true);
                    meet(field.getType().isPrimitive() ? null : field.get(one), met, left);
                }
            }
        }
        return new int[] {met.size(), elements};
    }

    private static void meet(Object one, Map<Object, Boolean> met, Deque<Object> left) {
        if (one != null && met.put(one, true) == null) {
            left.add(one);
        }
    }
}
