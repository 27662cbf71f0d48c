import java.lang.reflect.Array;
import java.lang.reflect.Field;
import java.lang.reflect.Modifier;
import java.util.IdentityHashMap;
import java.util.Map;

/** The room that an object takes: a small part of what a run has, and the same before its calls and behind them. */
public final class RoomTest extends Sentences {
    private static final int MOST_OBJECTS = 30;
    private static final int MOST_ELEMENTS = 10000;

    public static void main(String[] args) throws IllegalAccessException {
        sentence("room");
        SliceDrift x = new SliceDrift();
        Map<Object, Boolean> before = new IdentityHashMap<>();
        int elements = held(x, before);
        due("few objects", 1, () -> before.size() <= MOST_OBJECTS ? 1 : 0);
        due("few elements", 1, () -> elements <= MOST_ELEMENTS ? 1 : 0);
        use(x);
        Map<Object, Boolean> after = new IdentityHashMap<>();
        int elementsAfter = held(x, after);
        due("as many objects", before.size(), () -> after.size());
        due("the same objects", 1, () -> after.keySet().stream().allMatch(before::containsKey) ? 1 : 0);
        due("as many elements", elements, () -> elementsAfter);
        CHECK.end();
    }

    /** All calls, the dearest among them, 512 in all. */
    private static void use(SliceDrift x) {
        int calls = 0;
        for (int n = 0; n < 48; n++) {
            add(x, n * 20, n % 2 == 0, n % 10, n % 9, n % 7, n % 5, n % 3);
            calls += 6;
        }
        while (calls < 512) {
            x.slices(1, 2);
            x.member(calls, 0);
            x.share(calls, 1, 1);
            x.odds(0, 0, 200, 400, 0);
            x.watch(0, 100, 9, 2, 300);
            x.fresh(0, 0, 100, 1000, 3);
            x.order(0, 500, 1000, 4);
            Check.answerOf(() -> x.drift(0, 1, 2, 3, 0));
            calls += 8;
        }
    }

    /** Puts all objects that can be reached into the map; how many fields and elements these have. */
    private static int held(Object one, Map<Object, Boolean> met) throws IllegalAccessException {
        if (one == null || met.put(one, true) != null) {
            return 0;
        }
        if (one.getClass().isArray()) {
            int sum = Array.getLength(one);
            for (int i = 0; !one.getClass().getComponentType().isPrimitive() && i < Array.getLength(one); i++) {
                sum += held(Array.get(one, i), met);
            }
            return sum;
        }
        int sum = 0;
        for (Field field : one.getClass().getDeclaredFields()) {
            if (!Modifier.isStatic(field.getModifiers())) {
                field.setAccessible(true);
                sum += 1 + (field.getType().isPrimitive() ? 0 : held(field.get(one), met));
            }
        }
        return sum;
    }
}
