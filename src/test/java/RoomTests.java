import java.lang.reflect.Array;
import java.lang.reflect.Field;
import java.lang.reflect.Modifier;
import java.util.ArrayDeque;
import java.util.Collections;
import java.util.Deque;
import java.util.IdentityHashMap;
import java.util.Set;

/** How much room a house takes: a run has 600,000 objects and 7.3 million fields and elements for all that it makes. */
public final class RoomTests extends Checks {
    private static final int MOST_OBJECTS = 600;
    private static final int MOST_ELEMENTS = 10000;
    private static final int MOST_CALLS = 512;

    public static void main(String[] args) {
        promise = 1;
        Rollover x = new Rollover();
        int[] fresh = room(x);
        due(true, () -> fresh[0] <= MOST_OBJECTS);
        due(true, () -> fresh[1] <= MOST_ELEMENTS);
        use(x);
        int[] used = room(x);
        due(fresh[0], () -> used[0]);
        due(fresh[1], () -> used[1]);
        end();
    }

    /** All 512 calls, each of a kind that keeps something or rates anew, until all is full. */
    private static void use(Rollover x) {
        int calls = 0;
        for (int k = 0; calls < MOST_CALLS; k++) {
            int round = k;
            Question[] some = {() -> x.plan(1, 100, 2), () -> x.pass(3), () -> x.join(round % 5, 1),
                () -> x.call(round % 8, 0, round, round % 16, 1, 700), () -> x.gift(0, 1, 0, round, 50),
                () -> x.addOn(round % 8, 0, round, 60, 40, 3), () -> x.port(round % 16, 2, 1), () -> x.correct(0, 900),
                () -> x.best(0, 1, true), () -> x.wouldCost(0, 700, 3, 1, 800), () -> x.ofDay(0, round, 1),
                () -> x.line(round % 48), () -> x.digest()};
            for (int q = 0; q < some.length && calls < MOST_CALLS; q++) {
                answer(some[q]);
                calls++;
            }
        }
    }

    /** How many objects and arrays are held, and how many fields and elements these have together. */
    private static int[] room(Rollover x) {
        Set<Object> seen = Collections.newSetFromMap(new IdentityHashMap<>());
        Deque<Object> open = new ArrayDeque<>();
        open.add(x);
        int elements = 0;
        while (!open.isEmpty()) {
            Object one = open.pop();
            if (seen.add(one)) elements += one.getClass().isArray() ? array(one, open) : fields(one, open);
        }
        return new int[] {seen.size(), elements};
    }

    private static int array(Object one, Deque<Object> open) {
        int length = Array.getLength(one);
        boolean isOfNumbers = one.getClass().getComponentType().isPrimitive();
        for (int k = 0; k < length && !isOfNumbers; k++) {
            if (Array.get(one, k) != null) open.add(Array.get(one, k));
        }
        return length;
    }

    private static int fields(Object one, Deque<Object> open) {
        int many = 0;
        try {
            for (Field f : one.getClass().getDeclaredFields()) {
                if (Modifier.isStatic(f.getModifiers())) continue;
                many++;
                f.setAccessible(true);
                if (!f.getType().isPrimitive() && f.get(one) != null) open.add(f.get(one));
            }
        } catch (IllegalAccessException e) {
            throw new IllegalStateException(e);
        }
        return many;
    }
}
