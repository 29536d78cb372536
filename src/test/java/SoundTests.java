import java.lang.reflect.Array;
import java.lang.reflect.Field;

/**
 * Promise 27 where it is false. No run of calls is known to get there, so what is held inside is changed here, by
 * the names that it has in Rollover: each part of what is SOUND is broken by as little as can be.
 */
public final class SoundTests extends Checks {
    public static void main(String[] args) {
        promise = 27;
        bucketsBelowZero();
        sharesOfACall();
        limitOfAChild();
        capOfADay();
        capOfSeveralCalls();
        childOfAChild();
        end();
    }

    /** What stands at a path of names and places from the house on, as "current.purses.0". */
    private static Object at(Rollover x, String path) {
        try {
            Object one = x;
            for (String step : path.split("\\.")) {
                one = step.matches("\\d+") ? Array.get(one, Integer.parseInt(step)) : field(one, step).get(one);
            }
            return one;
        } catch (ReflectiveOperationException e) {
            throw new IllegalStateException(e);
        }
    }

    private static Field field(Object one, String name) throws ReflectiveOperationException {
        Field f = one.getClass().getDeclaredField(name);
        f.setAccessible(true);
        return f;
    }

    private static void put(Rollover x, String path, String name, int value) {
        try {
            Object one = at(x, path);
            field(one, name).setInt(one, value);
        } catch (ReflectiveOperationException e) {
            throw new IllegalStateException(e);
        }
    }

    /** 1 has 30 SECONDS left; its CHILD 0 (LIMIT 60, CAP 3) has one CALL of 10 own, 60 parent's, 20 CHARGED SECONDS. */
    private static Rollover house() {
        Rollover x = Houses.bare();
        x.steps(0, 9999, 1, 3);
        x.child(0, 1, 60);
        x.call(0, 0, 1, 0, 0, 90);
        x.addOn(0, 0, 0, 10, 1, 0);
        x.addOn(1, 0, 0, 90, 1, 0);
        due("call 0 on day 0: 10+60+20", () -> x.line(0));
        due(300, () -> x.ofTicket(0, 9));
        due(true, () -> x.isSound());
        return x;
    }

    private static void sound(boolean want, Rollover x) {
        due(want, () -> x.isSound());
    }

    /** "no BUCKET has less than 0" */
    private static void bucketsBelowZero() {
        for (int customer = 0; customer < 2; customer++) {
            for (int bucket = 0; bucket < 2; bucket++) {
                for (int left : new int[] {0, -1, -30}) {
                    Rollover x = house();
                    x.addOn(0, 0, 2, 10, 9, 0);
                    x.addOn(1, 0, 2, 10, 9, 0);
                    sound(true, x);
                    Array.setInt(at(x, "current.purses." + customer + ".left"), bucket, left);
                    sound(left == 0, x);
                }
            }
        }
    }

    /** "COUNTED SECONDS of each CALL that is not FREE are its own, its parent's and its CHARGED ones together" */
    private static void sharesOfACall() {
        for (String name : new String[] {"counted", "own", "parents", "charged"}) {
            for (int by : new int[] {-1, 1}) {
                Rollover x = house();
                int held = (int) at(x, "current.shares.0." + name);
                put(x, "current.shares.0", name, held + by);
                sound(false, x);
                put(x, "current.shares.0", name, held);
                sound(true, x);
            }
        }
        // Of a FREE CALL nothing is asked, nor of what is VOIDED or no CALL.
        Rollover free = house();
        free.circle(0, 1);
        due("call 0 on day 0: free", () -> free.line(0));
        put(free, "current.shares.0", "counted", 7);
        sound(true, free);
        Rollover none = house();
        none.gift(1, 0, 0, 9, 5);
        none.undo(0);
        due("gift 3 on day 0: 5", () -> none.line(3));
        sound(true, none);
        put(none, "current.shares.0", "counted", 7);
        sound(true, none);
    }

    /** "out of its parent's BUCKETS no CHILD had more than LIMIT in a CYCLE" */
    private static void limitOfAChild() {
        for (int cycle : new int[] {0, 1, 11}) {
            for (int parents : new int[] {60, 61}) {
                Rollover x = house();
                put(x, "current.sums." + cycle, "parents", parents);
                sound(parents == 60, x);
            }
        }
        // Of nobody's CHILD nothing is asked.
        Rollover x = house();
        put(x, "current.sums.12", "parents", 1);
        sound(true, x);
    }

    /** "CHARGES of each CUSTOMER and DAY are not above a CAP" */
    private static void capOfADay() {
        for (int charge : new int[] {299, 300, 301}) {
            Rollover x = house();
            put(x, "current.shares.0", "charge", charge);
            sound(charge <= 300, x);
        }
        Rollover least = house();
        least.steps(0, 9999, 1, 1);
        due(100, () -> least.ofTicket(0, 9));
        put(least, "current.shares.0", "charge", 101);
        sound(false, least);
        Rollover none = house();
        none.steps(0, 9999, 1, 0);
        due(400, () -> none.ofTicket(0, 9));
        sound(true, none);
    }

    /** Two CALLS of one DAY are counted together; of another DAY or another CUSTOMER they are not. */
    private static void capOfSeveralCalls() {
        Rollover x = house();
        x.correct(0, 78);
        x.call(0, 0, 2, 0, 0, 6);
        due("200 100", () -> x.ofTicket(0, 9) + " " + x.ofTicket(3, 9));
        sound(true, x);
        put(x, "current.shares.3", "charge", 101);
        sound(false, x);
        Rollover y = house();
        y.pass(1);
        y.call(0, 0, 2, 0, 0, 6);
        y.call(1, 1, 2, 0, 0, 60);
        due("300 100 300", () -> y.ofTicket(0, 9) + " " + y.ofTicket(3, 9) + " " + y.ofTicket(4, 9));
        sound(true, y);
        put(y, "current.shares.4", "charge", 301);
        sound(false, y);
    }

    /** "no CHILD has a CHILD"; and promise 28: "1 if isSound(), otherwise 0" is the last number of all. */
    private static void childOfAChild() {
        Rollover x = house();
        x.join(0, 0);
        sound(true, x);
        long before = x.digest();
        put(x, "books.customers.1", "parent", 2);
        sound(false, x);
        due(before - 1, () -> x.digest());
        put(x, "books.customers.1", "parent", NONE);
        sound(true, x);
        put(x, "books.customers.2", "parent", 0);
        sound(false, x);
    }
}
