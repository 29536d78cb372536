import java.lang.reflect.Constructor;
import java.lang.reflect.Field;
import java.lang.reflect.Method;
import java.lang.reflect.Modifier;
import java.util.Set;
import java.util.TreeSet;

/** Promise by promise: ordinary inputs, the edges that the document names, and wrong inputs. */
public final class PromiseTests extends Checks {
    public static void main(String[] args) {
        theFace();
        aNewObject();
        plan();
        units();
        steps();
        join();
        change();
        circle();
        child();
        pass();
        call();
        gift();
        addOn();
        correct();
        undo();
        port();
        incoming();
        ofDay();
        ofCycle();
        ofTicket();
        carrier();
        settlement();
        suspect();
        house();
        line();
        best();
        wouldCost();
        isSound();
        digest();
        end();
    }

    private static void theFace() {
        Set<String> face = new TreeSet<>();
        for (Method m : Rollover.class.getDeclaredMethods()) {
            if (!Modifier.isPrivate(m.getModifiers()) && !m.isSynthetic()) face.add(m.toGenericString());
        }
        String two = " throws java.lang.IndexOutOfBoundsException,java.lang.IllegalArgumentException";
        String three = two + ",java.lang.IllegalStateException";
        String[] due = {
            "int Rollover.plan(int,int,int) throws java.lang.IllegalArgumentException,java.lang.IllegalStateException",
            "int Rollover.units(int,int,int,int,boolean)" + two, "int Rollover.steps(int,int,int,int)" + two,
            "int Rollover.join(int,int)" + three,
            "int Rollover.change(int,int) throws java.lang.IndexOutOfBoundsException",
            "int Rollover.circle(int,int)" + two, "int Rollover.child(int,int,int)" + three,
            "int Rollover.pass(int) throws java.lang.IllegalArgumentException,java.lang.IllegalStateException",
            "int Rollover.call(int,int,int,int,int,int)" + three, "int Rollover.gift(int,int,int,int,int)" + three,
            "int Rollover.addOn(int,int,int,int,int,int)" + three, "int Rollover.correct(int,int)" + three,
            "int Rollover.undo(int) throws java.lang.IndexOutOfBoundsException,java.lang.IllegalStateException",
            "int Rollover.port(int,int,int)" + three, "int Rollover.incoming(int,int)" + two,
            "int Rollover.ofDay(int,int,int)" + two, "int Rollover.ofCycle(int,int,int)" + two,
            "int Rollover.ofTicket(int,int)" + two, "int Rollover.carrier(int,int)" + two,
            "int Rollover.settlement(int) throws java.lang.IndexOutOfBoundsException",
            "int Rollover.suspect(int) throws java.lang.IndexOutOfBoundsException",
            "int Rollover.house(int) throws java.lang.IllegalArgumentException",
            "java.lang.String Rollover.line(int) throws java.lang.IndexOutOfBoundsException",
            "int Rollover.best(int,int,boolean)" + two, "int Rollover.wouldCost(int,int,int,int,int)" + two,
            "boolean Rollover.isSound()", "long Rollover.digest()"};
        Set<String> want = new TreeSet<>();
        for (String s : due) want.add("public " + s);
        due(want, () -> face);
        due(true, () -> Modifier.isFinal(Rollover.class.getModifiers()));
        int open = 0;
        for (Field f : Rollover.class.getDeclaredFields()) open += Modifier.isPrivate(f.getModifiers()) ? 0 : 1;
        for (Constructor<?> c : Rollover.class.getDeclaredConstructors()) {
            open += Modifier.isPublic(c.getModifiers()) && c.getParameterCount() == 0 ? 0 : 1;
        }
        int stray = open;
        due(0, () -> stray);
    }

    private static void aNewObject() {
        promise = 1;
        Rollover x = new Rollover();
        for (int k = 0; k <= 9; k++) {
            int what = k;
            due(0, () -> x.house(what));
        }
        for (int n = 0; n < 16; n++) {
            int number = n;
            due(n % 4, () -> x.carrier(number, 0));
        }
        due(INDEX, () -> x.join(0, 0));
        due(true, () -> x.isSound());
    }

    private static void plan() {
        promise = 2;
        Rollover x = new Rollover();
        refused(ARGUMENT, x, () -> x.plan(-1, 0, 0));
        refused(ARGUMENT, x, () -> x.plan(100, 0, 0));
        refused(ARGUMENT, x, () -> x.plan(0, -1, 0));
        refused(ARGUMENT, x, () -> x.plan(0, 10000, 0));
        refused(ARGUMENT, x, () -> x.plan(0, 0, -1));
        refused(ARGUMENT, x, () -> x.plan(0, 0, 100));
        due(0, () -> x.plan(7, 0, 3));
        due(1, () -> x.plan(99, 9999, 99));
        // As told at first: FIRST and UNIT 60, KEEP 0, LATER PRICE as PRICE, no CAP, no NIGHT.
        x.join(0, 0);
        x.call(0, 0, 0, 1, 0, 61);
        due(120, () -> x.ofTicket(0, 6));
        due(600, () -> x.ofTicket(0, 9));
        due(7 + 6, () -> x.ofCycle(0, 0, 0));
        x.join(1, 0);
        due(9999, () -> x.ofDay(1, 0, 3) + x.ofDay(1, 0, 1));
        x.pass(29);
        due(9999, () -> x.ofDay(1, 29, 3));
        x.plan(0, 0, 0);
        x.plan(0, 0, 0);
        due(4, () -> x.plan(0, 0, 0));
        refused(STATE, x, () -> x.plan(0, 0, 0));
        refused(ARGUMENT, x, () -> x.plan(0, 0, 100));
    }

    private static void units() {
        promise = 3;
        Rollover x = Houses.three();
        due(60, () -> x.units(0, 1, 20, 50, true));
        due(50, () -> x.units(0, 3, 120, 120, false));
        due(120, () -> x.units(0, 0, 1, 6, false));
        due(6, () -> x.units(0, 3, 1, 6, false));
        refused(INDEX, x, () -> x.units(1, 9, 1, 6, false));
        refused(INDEX, x, () -> x.units(-1, 0, 1, 6, false));
        refused(ARGUMENT, x, () -> x.units(0, -1, 1, 6, false));
        refused(ARGUMENT, x, () -> x.units(0, 4, 1, 6, false));
        refused(ARGUMENT, x, () -> x.units(0, 0, 0, 6, false));
        refused(ARGUMENT, x, () -> x.units(0, 0, 121, 6, false));
        refused(ARGUMENT, x, () -> x.units(0, 0, 1, 5, false));
        refused(ARGUMENT, x, () -> x.units(0, 0, 1, 121, false));
        // It holds for all DAYS, so for calls that came already.
        x.call(0, 5, 400, 1, 0, 100);
        due(1 + 17 * 6, () -> x.ofTicket(0, 6));
        x.units(0, 0, 100, 6, false);
        due(100, () -> x.ofTicket(0, 6));
        x.units(0, 0, 99, 6, false);
        due(105, () -> x.ofTicket(0, 6));
        // A NIGHT goes from MINUTE 1320 to 359.
        x.call(0, 5, 359, 1, 0, 1);
        x.call(0, 5, 360, 1, 0, 1);
        x.call(0, 5, 1319, 1, 0, 1);
        x.call(0, 5, 1320, 1, 0, 1);
        due(0, () -> x.ofCycle(0, 1, 6));
        x.units(0, 0, 99, 6, true);
        due(2, () -> x.ofCycle(0, 1, 6));
        due("call 1 on day 35: free", () -> x.line(1));
        due("call 4 on day 35: free", () -> x.line(4));
    }

    private static void steps() {
        promise = 4;
        Rollover x = Houses.bare();
        due(0, () -> x.steps(0, 0, 2, 7));
        due(7, () -> x.steps(0, 9999, 99, 999));
        due(999, () -> x.steps(0, 12, 5, 0));
        refused(INDEX, x, () -> x.steps(1, -1, 0, 0));
        refused(INDEX, x, () -> x.steps(-1, 0, 0, 0));
        refused(ARGUMENT, x, () -> x.steps(0, -1, 0, 0));
        refused(ARGUMENT, x, () -> x.steps(0, 10000, 0, 0));
        refused(ARGUMENT, x, () -> x.steps(0, 0, -1, 0));
        refused(ARGUMENT, x, () -> x.steps(0, 0, 100, 0));
        refused(ARGUMENT, x, () -> x.steps(0, 0, 0, -1));
        refused(ARGUMENT, x, () -> x.steps(0, 0, 0, 1000));
        // Units begin at 0, 6 and 12 charged seconds: the third is not below the step of 12.
        x.call(0, 0, 500, 1, 0, 18);
        due(100 + 100 + 500, () -> x.ofTicket(0, 9));
        x.steps(0, 13, 5, 0);
        due(300, () -> x.ofTicket(0, 9));
        x.call(0, 0, 501, 1, 0, 6);
        due(500, () -> x.ofTicket(1, 9));
        // A step of 0: always the later price.
        x.steps(0, 0, 5, 0);
        due(1500, () -> x.ofTicket(0, 9));
        // A cap of 16 is for both calls of the day; the seconds count as charged all the same.
        x.steps(0, 0, 5, 16);
        due(1500, () -> x.ofTicket(0, 9));
        due(100, () -> x.ofTicket(1, 9));
        due(24, () -> x.ofCycle(0, 0, 2));
        x.pass(1);
        x.call(0, 0, 0, 1, 0, 18);
        due(1500, () -> x.ofTicket(2, 9));
        due(31, () -> x.ofCycle(0, 0, 0));
        // Another cycle counts its steps from 0.
        x.pass(29);
        x.steps(0, 6, 0, 0);
        x.call(0, 0, 0, 1, 0, 12);
        due(100, () -> x.ofTicket(3, 9));
        due(0, () -> x.ofTicket(2, 9));
    }

    private static void join() {
        promise = 5;
        Rollover x = new Rollover();
        x.plan(10, 100, 5);
        x.pass(45);
        refused(INDEX, x, () -> x.join(1, 99));
        refused(INDEX, x, () -> x.join(-1, 0));
        refused(ARGUMENT, x, () -> x.join(0, -1));
        refused(ARGUMENT, x, () -> x.join(0, 46));
        refused(ARGUMENT, x, () -> x.join(0, Integer.MIN_VALUE));
        due(0, () -> x.join(0, 45));
        due(1, () -> x.join(0, 0));
        due(2, () -> x.join(0, 16));
        due(100, () -> x.ofDay(0, 0, 1));
        due(100 * 15 / 30, () -> x.ofDay(1, 45, 1));
        due(100 / 30, () -> x.ofDay(2, 29, 3));
        due(100, () -> x.ofDay(2, 30, 1));
        due(0, () -> x.ofDay(2, 28, 1));
        for (int k = 3; k < 8; k++) x.join(0, 0);
        refused(STATE, x, () -> x.join(0, 0));
        refused(ARGUMENT, x, () -> x.join(0, 46));
        refused(INDEX, x, () -> x.join(1, 0));
    }

    private static void change() {
        promise = 6;
        Rollover x = Houses.three();
        x.plan(20, 600, 1);
        x.plan(30, 900, 9);
        due(0, () -> x.change(0, 1));
        due(1, () -> x.change(0, 2));
        due(2, () -> x.change(0, 2));
        due(0, () -> x.ofDay(0, 39, 0));
        due(2, () -> x.ofDay(0, 40, 0));
        due(0, () -> x.ofDay(1, 40, 0));
        // The fee is that of the first day, the price that of the call's day.
        x.call(0, 1, 0, 1, 0, 360);
        x.call(0, 0, 0, 1, 0, 60);
        due(500, () -> x.ofTicket(0, 9));
        due(900, () -> x.ofTicket(1, 9));
        due(10 + 14, () -> x.ofCycle(0, 1, 0));
        due(30, () -> x.ofCycle(0, 2, 0));
        x.pass(20);
        due(900, () -> x.ofDay(0, 60, 1));
        due(2, () -> x.change(0, 0));
        due(300, () -> x.ofDay(0, 60, 1));
        refused(INDEX, x, () -> x.change(3, 0));
        refused(INDEX, x, () -> x.change(-1, 0));
        refused(INDEX, x, () -> x.change(0, 3));
        refused(INDEX, x, () -> x.change(0, -1));
    }

    private static void circle() {
        promise = 7;
        Rollover x = Houses.three();
        x.call(0, 3, 700, 15, 3, 400);
        due(420, () -> x.ofTicket(0, 6));
        due(4, () -> x.circle(0, 0x8421));
        due(0, () -> x.ofTicket(0, 6));
        due(0, () -> x.ofTicket(0, 9));
        due("call 0 on day 37: free", () -> x.line(0));
        due(0, () -> x.circle(0, 0));
        due(420, () -> x.ofTicket(0, 6));
        refused(INDEX, x, () -> x.circle(3, -1));
        refused(INDEX, x, () -> x.circle(-1, 0));
        refused(ARGUMENT, x, () -> x.circle(0, -1));
        refused(ARGUMENT, x, () -> x.circle(0, 65536));
        refused(ARGUMENT, x, () -> x.circle(0, 31));
        refused(ARGUMENT, x, () -> x.circle(0, 65535));
    }

    private static void child() {
        promise = 8;
        Rollover x = Houses.three();
        x.call(1, 1, 700, 15, 0, 420);
        x.call(1, 0, 700, 15, 0, 60);
        due(300, () -> x.ofTicket(0, 7));
        due(0, () -> x.ofTicket(0, 8));
        due(NONE, () -> x.child(1, 0, 150));
        due("call 0 on day 39: 300+120+0", () -> x.line(0));
        due("call 1 on day 40: 0+30+30", () -> x.line(1));
        due(150, () -> x.ofCycle(1, 1, 4));
        due(0, () -> x.child(1, 0, 100));
        due("call 0 on day 39: 300+100+20", () -> x.line(0));
        // One call's last unit may be a part of one.
        due(500, () -> x.ofTicket(0, 9));
        due(200, () -> x.ofDay(0, 40, 1));
        due(NONE, () -> x.child(2, 0, 0));
        refused(INDEX, x, () -> x.child(3, 0, 0));
        refused(INDEX, x, () -> x.child(0, 3, 0));
        refused(INDEX, x, () -> x.child(0, -2, 0));
        refused(INDEX, x, () -> x.child(-1, -1, 0));
        refused(ARGUMENT, x, () -> x.child(0, 0, 0));
        refused(ARGUMENT, x, () -> x.child(1, 1, 0));
        refused(ARGUMENT, x, () -> x.child(1, 0, -1));
        refused(ARGUMENT, x, () -> x.child(1, NONE, 10000));
        refused(STATE, x, () -> x.child(2, 1, 0));
        refused(STATE, x, () -> x.child(0, 2, 0));
        due(NONE, () -> x.child(0, NONE, 9999));
        due(0, () -> x.child(1, NONE, 0));
        due("call 0 on day 39: 300+0+120", () -> x.line(0));
        refused(STATE, x, () -> x.child(0, 1, 0));
        due(0, () -> x.child(2, 1, 9999));
        // A parent has no seconds ahead of its joining; another cycle has a limit of its own.
        Rollover y = new Rollover();
        y.plan(0, 300, 1);
        y.plan(0, 0, 1);
        y.pass(35);
        y.join(1, 35);
        y.join(0, 6);
        y.child(0, 1, 20);
        y.call(0, 7, 0, 0, 0, 60);
        y.call(0, 6, 0, 0, 0, 60);
        y.call(0, 5, 0, 0, 0, 60);
        y.call(0, 4, 0, 0, 0, 60);
        due(0, () -> y.ofTicket(0, 8));
        due(10, () -> y.ofTicket(1, 8));
        due(20, () -> y.ofTicket(2, 8));
        due(0, () -> y.ofTicket(3, 8));
    }

    private static void pass() {
        promise = 9;
        Rollover x = new Rollover();
        x.plan(0, 30, 0);
        x.join(0, 0);
        refused(ARGUMENT, x, () -> x.pass(0));
        refused(ARGUMENT, x, () -> x.pass(121));
        refused(ARGUMENT, x, () -> x.pass(-1));
        due(29, () -> x.pass(29));
        due(30, () -> x.ofDay(0, 29, 3));
        due(30, () -> x.pass(1));
        due(30, () -> x.ofDay(0, 30, 1));
        due(0, () -> x.ofDay(0, 30, 3));
        x.pass(120);
        x.pass(120);
        due(359, () -> x.pass(89));
        refused(STATE, x, () -> x.pass(1));
        refused(ARGUMENT, x, () -> x.pass(121));
        due(359, () -> x.house(0));
    }

    private static void call() {
        promise = 10;
        Rollover x = Houses.three();
        due(0, () -> x.call(0, 10, 1439, 15, 3, 9999));
        due(1, () -> x.call(0, 0, 0, 0, 0, 1));
        due(NONE, () -> x.call(0, 0, 0, 0, 3, 500));
        due(2, () -> x.call(0, 0, 0, 1, 0, 1));
        due(3, () -> x.call(0, 0, 1, 0, 0, 1));
        due(4, () -> x.call(0, 1, 0, 0, 0, 1));
        due(5, () -> x.call(1, 0, 0, 0, 0, 1));
        x.undo(1);
        due(NONE, () -> x.call(0, 0, 0, 0, 0, 1));
        due(2, () -> x.house(5));
        due(6, () -> x.house(3));
        refused(INDEX, x, () -> x.call(3, 0, 0, 0, 0, 1));
        refused(INDEX, x, () -> x.call(-1, 0, 0, 0, 0, 1));
        refused(INDEX, x, () -> x.call(0, 99, 0, 16, 0, 1));
        refused(INDEX, x, () -> x.call(0, 0, 0, -1, 0, 1));
        refused(ARGUMENT, x, () -> x.call(0, 11, 0, 0, 0, 1));
        refused(ARGUMENT, x, () -> x.call(2, 2, 0, 0, 0, 1));
        refused(ARGUMENT, x, () -> x.call(0, -1, 0, 0, 0, 1));
        refused(ARGUMENT, x, () -> x.call(0, Integer.MIN_VALUE, 0, 0, 0, 1));
        refused(ARGUMENT, x, () -> x.call(0, Integer.MAX_VALUE, 0, 0, 0, 1));
        refused(ARGUMENT, x, () -> x.call(0, 0, -1, 0, 0, 1));
        refused(ARGUMENT, x, () -> x.call(0, 0, 1440, 0, 0, 1));
        refused(ARGUMENT, x, () -> x.call(0, 0, 0, 0, -1, 1));
        refused(ARGUMENT, x, () -> x.call(0, 0, 0, 0, 4, 1));
        refused(ARGUMENT, x, () -> x.call(0, 0, 0, 0, 0, 0));
        refused(ARGUMENT, x, () -> x.call(0, 0, 0, 0, 0, 10000));
        for (int k = 6; k < 48; k++) x.call(1, 5, k, 1, 0, 1);
        refused(STATE, x, () -> x.call(2, 0, 0, 0, 0, 1));
        refused(STATE, x, () -> x.call(0, 0, 0, 0, 0, 1));
        refused(ARGUMENT, x, () -> x.call(0, 0, 0, 0, 0, 0));
        // Whatever comes late is rated as if in time; the zone costs a quarter each.
        Rollover y = Houses.three();
        y.call(0, 0, 100, 1, 2, 300);
        due("call 0 on day 40: 300+0+0", () -> y.line(0));
        y.call(0, 0, 99, 1, 1, 60);
        due("call 0 on day 40: 240+0+60", () -> y.line(0));
        due(5 * 150, () -> y.ofTicket(0, 9));
        y.call(0, 0, 100, 2, 0, 60);
        due("call 2 on day 40: 0+0+60", () -> y.line(2));
    }

    private static void gift() {
        promise = 11;
        Rollover x = Houses.three();
        due(0, () -> x.gift(0, 1, 10, 5, 100));
        due(1, () -> x.gift(0, 2, 1, 0, 9999));
        due(100, () -> x.ofTicket(0, 7));
        due(200, () -> x.ofTicket(1, 7));
        due(0, () -> x.ofDay(0, 40, 1));
        due(400, () -> x.ofDay(1, 40, 1));
        due(2, () -> x.ofDay(1, 40, 2));
        due(2, () -> x.gift(0, 1, 0, 0, 1));
        due(2, () -> x.ofDay(1, 40, 2));
        due("gift 2 on day 40: 0", () -> x.line(2));
        // What was given lapses with the cycle of its day.
        x.units(0, 3, 60, 60, false);
        x.pass(19);
        due(100, () -> x.ofDay(1, 59, 3));
        // An earlier call leaves less to give.
        x.call(0, 27, 0, 0, 0, 180);
        due(20, () -> x.ofTicket(1, 7));
        due(20 + 300 * 21 / 30, () -> x.ofDay(2, 59, 1));
        refused(INDEX, x, () -> x.gift(3, 0, 0, 0, 1));
        refused(INDEX, x, () -> x.gift(0, 3, 0, 0, 1));
        refused(INDEX, x, () -> x.gift(-1, -1, 0, 0, 1));
        refused(ARGUMENT, x, () -> x.gift(0, 0, 0, 0, 1));
        refused(ARGUMENT, x, () -> x.gift(0, 2, 21, 0, 1));
        refused(ARGUMENT, x, () -> x.gift(2, 0, 21, 0, 1));
        refused(ARGUMENT, x, () -> x.gift(0, 1, -1, 0, 1));
        refused(ARGUMENT, x, () -> x.gift(0, 1, 0, -1, 1));
        refused(ARGUMENT, x, () -> x.gift(0, 1, 0, 1440, 1));
        refused(ARGUMENT, x, () -> x.gift(0, 1, 0, 0, 0));
        refused(ARGUMENT, x, () -> x.gift(0, 1, 0, 0, 10000));
        for (int k = 4; k < 48; k++) x.gift(0, 1, 0, 0, 1);
        refused(STATE, x, () -> x.gift(0, 1, 0, 0, 1));
        refused(ARGUMENT, x, () -> x.gift(0, 1, 0, 0, 0));
    }

    private static void addOn() {
        promise = 12;
        Rollover x = Houses.three();
        due(0, () -> x.addOn(0, 5, 700, 100, 3, 42));
        due(400, () -> x.ofDay(0, 35, 1));
        due(400, () -> x.ofDay(0, 37, 1));
        due(100, () -> x.ofDay(0, 37, 3));
        due(300, () -> x.ofDay(0, 38, 1));
        due(10 + 42, () -> x.ofCycle(0, 1, 0));
        due(42, () -> x.ofCycle(0, 1, 7));
        due(0, () -> x.ofTicket(0, 7));
        // It is there from its minute on, of the same minute for later numbers alone; and it lapses first.
        x.call(0, 5, 700, 0, 0, 60);
        x.call(0, 5, 699, 0, 0, 60);
        due(40, () -> x.ofDay(0, 37, 3));
        due(240, () -> x.ofDay(0, 38, 1));
        due(1, () -> x.addOn(1, 10, 0, 1, 1, 0) - 2);
        due(1, () -> x.ofDay(1, 30, 3));
        due(4, () -> x.addOn(1, 0, 1439, 9999, 90, 99));
        refused(INDEX, x, () -> x.addOn(3, 0, 0, 1, 1, 0));
        refused(INDEX, x, () -> x.addOn(-1, 0, 0, 1, 1, 0));
        refused(ARGUMENT, x, () -> x.addOn(0, 11, 0, 1, 1, 0));
        refused(ARGUMENT, x, () -> x.addOn(0, -1, 0, 1, 1, 0));
        refused(ARGUMENT, x, () -> x.addOn(0, 0, -1, 1, 1, 0));
        refused(ARGUMENT, x, () -> x.addOn(0, 0, 1440, 1, 1, 0));
        refused(ARGUMENT, x, () -> x.addOn(0, 0, 0, 0, 1, 0));
        refused(ARGUMENT, x, () -> x.addOn(0, 0, 0, 10000, 1, 0));
        refused(ARGUMENT, x, () -> x.addOn(0, 0, 0, 1, 0, 0));
        refused(ARGUMENT, x, () -> x.addOn(0, 0, 0, 1, 91, 0));
        refused(ARGUMENT, x, () -> x.addOn(0, 0, 0, 1, 1, -1));
        refused(ARGUMENT, x, () -> x.addOn(0, 0, 0, 1, 1, 100));
        for (int k = 5; k < 48; k++) x.addOn(1, 0, 0, 1, 1, 0);
        refused(STATE, x, () -> x.addOn(0, 0, 0, 1, 1, 0));
        refused(ARGUMENT, x, () -> x.addOn(0, 0, 0, 1, 1, 100));
    }

    private static void correct() {
        promise = 13;
        Rollover x = Houses.three();
        x.call(0, 2, 0, 0, 0, 300);
        x.call(0, 1, 0, 0, 0, 60);
        x.gift(0, 1, 0, 0, 50);
        x.call(0, 0, 0, 0, 0, 60);
        due(10 + 10, () -> x.ofCycle(0, 1, 0));
        due(-10, () -> x.correct(0, 120));
        due(120, () -> x.ofTicket(0, 4));
        due(120, () -> x.ofTicket(0, 6));
        due(10, () -> x.correct(0, 241));
        due(0, () -> x.correct(0, 300));
        due(810, () -> x.correct(0, 9999));
        x.undo(3);
        refused(INDEX, x, () -> x.correct(4, 0));
        refused(INDEX, x, () -> x.correct(-1, 1));
        refused(ARGUMENT, x, () -> x.correct(0, 0));
        refused(ARGUMENT, x, () -> x.correct(0, 10000));
        refused(ARGUMENT, x, () -> x.correct(2, 0));
        refused(STATE, x, () -> x.correct(2, 1));
        refused(STATE, x, () -> x.correct(3, 1));
        // Only the bill of its customer and cycle is told, though a parent pays more too.
        Rollover y = Houses.three();
        y.child(1, 0, 9999);
        y.call(1, 5, 0, 0, 0, 300);
        y.call(0, 0, 0, 0, 0, 300);
        due(0, () -> y.correct(0, 600));
        due(10 + 25, () -> y.ofCycle(0, 1, 0));
    }

    private static void undo() {
        promise = 14;
        Rollover x = Houses.three();
        x.child(1, 0, 9999);
        x.call(1, 5, 0, 0, 0, 600);
        x.call(0, 0, 0, 0, 0, 300);
        x.addOn(1, 9, 0, 60, 1, 7);
        due(35, () -> x.ofCycle(0, 1, 0));
        due(-25, () -> x.undo(0));
        due(-7, () -> x.undo(2));
        due(0, () -> x.ofTicket(0, 7));
        due(0, () -> x.ofTicket(0, 8));
        due(1, () -> x.ofTicket(0, 5));
        due(600, () -> x.ofTicket(0, 4));
        due(2, () -> x.house(4));
        due(3, () -> x.house(3));
        refused(INDEX, x, () -> x.undo(3));
        refused(INDEX, x, () -> x.undo(-1));
        refused(STATE, x, () -> x.undo(0));
        // Voiding what gave seconds makes bills more, of all cycles up to that of today.
        Rollover y = new Rollover();
        y.plan(0, 0, 1);
        y.join(0, 0);
        y.join(0, 0);
        y.addOn(0, 0, 0, 300, 60, 3);
        y.pass(59);
        y.gift(0, 1, 59, 1, 120);
        y.call(1, 50, 0, 0, 0, 60);
        y.call(0, 10, 0, 0, 0, 180);
        due(-3 + 1 + 3, () -> y.undo(0));
        due("gift 1 on day 0: 0", () -> y.line(1));
    }

    private static void port() {
        promise = 15;
        Rollover x = Houses.three();
        due(3, () -> x.port(3, 0, 10));
        due(3, () -> x.carrier(3, 29));
        due(0, () -> x.carrier(3, 30));
        due(0, () -> x.port(3, 1, 40));
        // Told last, from an earlier day on: it holds for the later days too.
        due(1, () -> x.carrier(3, 0));
        due(1, () -> x.carrier(3, 40));
        due(1, () -> x.port(3, 2, 0));
        due(1, () -> x.carrier(3, 39));
        due(2, () -> x.carrier(3, 40));
        due(3, () -> x.carrier(7, 40));
        refused(INDEX, x, () -> x.port(16, 0, 0));
        refused(INDEX, x, () -> x.port(-1, 0, 0));
        refused(INDEX, x, () -> x.port(0, 4, 99));
        refused(INDEX, x, () -> x.port(0, -1, 0));
        refused(ARGUMENT, x, () -> x.port(0, 0, -1));
        refused(ARGUMENT, x, () -> x.port(0, 0, 41));
        for (int k = 3; k < 20; k++) x.port(5, 0, 0);
        due(20, () -> x.house(7));
        refused(STATE, x, () -> x.port(0, 0, 0));
        refused(ARGUMENT, x, () -> x.port(0, 0, 41));
    }

    private static void incoming() {
        promise = 16;
        Rollover x = Houses.three();
        x.call(0, 0, 0, 1, 0, 61);
        due(2, () -> x.incoming(1, 0));
        due(-3, () -> x.incoming(1, 5));
        due(-10002, () -> x.incoming(1, 9999));
        due(-1, () -> x.incoming(3, 1));
        refused(INDEX, x, () -> x.incoming(0, -1));
        refused(INDEX, x, () -> x.incoming(4, 1));
        refused(ARGUMENT, x, () -> x.incoming(1, -1));
        refused(ARGUMENT, x, () -> x.incoming(1, 10000));
    }

    private static void ofDay() {
        promise = 17;
        Rollover x = new Rollover();
        x.plan(0, 300, 1);
        x.units(0, 1, 60, 60, false);
        x.plan(0, 0, 1);
        x.pass(70);
        x.join(0, 65);
        due(NONE, () -> x.ofDay(0, 4, 0));
        due(0, () -> x.ofDay(0, 4, 1));
        due(0, () -> x.ofDay(0, 4, 2));
        due(0, () -> x.ofDay(0, 5, 0));
        due(250, () -> x.ofDay(0, 5, 1));
        due(550, () -> x.ofDay(0, 30, 1));
        due(2, () -> x.ofDay(0, 59, 2));
        due(250, () -> x.ofDay(0, 59, 3));
        due(600, () -> x.ofDay(0, 60, 1));
        // The earliest to lapse is used first, and empty ones are not counted.
        x.call(0, 20, 700, 0, 0, 240);
        due(310, () -> x.ofDay(0, 50, 1));
        due(10, () -> x.ofDay(0, 59, 3));
        x.correct(0, 300);
        due(1, () -> x.ofDay(0, 50, 2));
        due(2, () -> x.ofDay(0, 49, 2));
        due(250, () -> x.ofDay(0, 50, 1));
        due(0, () -> x.ofDay(0, 59, 3));
        // As many buckets as there can be: 12 grants and 48 add-ons.
        Rollover y = new Rollover();
        y.plan(0, 30, 0);
        y.units(0, 3, 1, 6, false);
        y.join(0, 0);
        y.pass(120);
        y.pass(120);
        y.pass(119);
        for (int k = 0; k < 48; k++) y.addOn(0, 0, k, 1, 90, 0);
        due(4 * 30 + 48, () -> y.ofDay(0, 359, 1));
        due(4 + 48, () -> y.ofDay(0, 359, 2));
        due(30, () -> y.ofDay(0, 359, 3));
        // Of equal last days that one is emptied first which came first.
        x.addOn(0, 40, 0, 7, 30, 0);
        x.addOn(0, 39, 0, 70, 29, 0);
        x.correct(0, 60);
        x.call(0, 35, 0, 0, 0, 240);
        due(550 + 77 - 300, () -> x.ofDay(0, 59, 1));
        due(2, () -> x.ofDay(0, 59, 2));
        refused(INDEX, x, () -> x.ofDay(1, -1, 0));
        refused(INDEX, x, () -> x.ofDay(-1, 0, 0));
        refused(ARGUMENT, x, () -> x.ofDay(0, -1, 0));
        refused(ARGUMENT, x, () -> x.ofDay(0, 71, 0));
        refused(ARGUMENT, x, () -> x.ofDay(0, 0, -1));
        refused(ARGUMENT, x, () -> x.ofDay(0, 0, 4));
    }

    private static void ofCycle() {
        promise = 18;
        Rollover x = new Rollover();
        x.plan(9, 90, 1);
        x.plan(8, 0, 3);
        x.pass(59);
        x.join(0, 25);
        x.join(0, 29);
        x.child(1, 0, 45);
        x.circle(1, 2);
        x.call(1, 29, 0, 0, 1, 200);
        x.call(1, 28, 0, 1, 1, 200);
        x.call(1, 27, 0, 2, 1, 1);
        x.addOn(1, 0, 0, 100, 1, 13);
        x.undo(2);
        // Its parent joined behind the calls' days: nothing is taken from it.
        int[] want = {9 + 13 + 4, 375, 150, 90, 0, 2, 1, 13};
        for (int k = 0; k <= 7; k++) {
            int what = k;
            due(want[k], () -> x.ofCycle(1, 1, what));
            due(k == 0 ? NONE : 0, () -> x.ofCycle(1, 0, what));
            due(k == 0 ? 9 : 0, () -> x.ofCycle(1, 11, what));
        }
        x.call(1, 25, 0, 0, 0, 60);
        due(45, () -> x.ofCycle(1, 1, 4));
        due(90 * 26 / 30 - 45, () -> x.ofDay(0, 59, 1));
        // A changed plan's fee is for the cycles that begin later, ahead of today too.
        x.change(1, 1);
        due(9, () -> x.ofCycle(1, 1, 0) - x.ofCycle(1, 1, 7) - (x.ofCycle(1, 1, 1) + 99) / 100);
        due(8, () -> x.ofCycle(1, 2, 0));
        refused(INDEX, x, () -> x.ofCycle(2, -1, 0));
        refused(INDEX, x, () -> x.ofCycle(-1, 0, 0));
        refused(ARGUMENT, x, () -> x.ofCycle(0, -1, 0));
        refused(ARGUMENT, x, () -> x.ofCycle(0, 12, 0));
        refused(ARGUMENT, x, () -> x.ofCycle(0, 0, -1));
        refused(ARGUMENT, x, () -> x.ofCycle(0, 0, 8));
        // Bills are rounded once: two charges of 125 hundredths are 250, so 3.
        Rollover y = Houses.bare();
        y.call(0, 0, 0, 0, 1, 6);
        y.call(0, 0, 1, 0, 1, 6);
        due(3, () -> y.ofCycle(0, 0, 0));
    }

    private static void ofTicket() {
        promise = 19;
        Rollover x = Houses.three();
        x.child(1, 0, 50);
        x.call(1, 3, 77, 4, 3, 361);
        x.gift(0, 2, 0, 9, 999);
        x.addOn(0, 5, 8, 30, 2, 4);
        x.call(1, 3, 76, 4, 3, 5);
        x.call(1, 3, 77, 5, 3, 5);
        x.undo(3);
        int[][] want = {{0, 1, 37, 77, 361, 0, 420, 300, 50, 5 * 175 * 2, 2}, {1, 0, 40, 9, 999, 0, 0, 250, 0, 0, 4},
            {2, 0, 35, 8, 30, 0, 0, 0, 0, 0, 0}, {0, 1, 37, 76, 5, 1, 0, 0, 0, 0, 1},
            {0, 1, 37, 77, 5, 0, 60, 0, 0, 5 * 175, 3}};
        for (int t = 0; t < want.length; t++) {
            for (int k = 0; k <= 10; k++) {
                int ticket = t, what = k;
                due(want[t][k], () -> x.ofTicket(ticket, what));
            }
        }
        refused(INDEX, x, () -> x.ofTicket(5, -1));
        refused(INDEX, x, () -> x.ofTicket(-1, 0));
        refused(ARGUMENT, x, () -> x.ofTicket(0, -1));
        refused(ARGUMENT, x, () -> x.ofTicket(0, 11));
    }

    private static void carrier() {
        promise = 20;
        Rollover x = Houses.three();
        due(3, () -> x.carrier(15, 40));
        x.port(15, 2, 0);
        due(2, () -> x.carrier(15, 40));
        due(3, () -> x.carrier(15, 39));
        refused(INDEX, x, () -> x.carrier(16, -1));
        refused(INDEX, x, () -> x.carrier(-1, 0));
        refused(ARGUMENT, x, () -> x.carrier(0, -1));
        refused(ARGUMENT, x, () -> x.carrier(0, 41));
    }

    private static void settlement() {
        promise = 21;
        Rollover x = Houses.three();
        x.circle(0, 2);
        x.call(0, 4, 0, 1, 0, 60);
        due(1, () -> x.settlement(1));
        x.call(0, 4, 1, 5, 0, 121);
        due(4, () -> x.settlement(1));
        x.call(0, 4, 2, 4, 0, 121);
        due(0, () -> x.settlement(2) + x.settlement(3));
        x.incoming(1, 6);
        due(-2, () -> x.settlement(1));
        x.port(5, 3, 4);
        due(-5, () -> x.settlement(1));
        due(3, () -> x.settlement(3));
        x.port(1, 0, 3);
        due(-5, () -> x.settlement(1));
        x.undo(0);
        due(-6, () -> x.settlement(1));
        refused(INDEX, x, () -> x.settlement(0));
        refused(INDEX, x, () -> x.settlement(4));
        refused(INDEX, x, () -> x.settlement(-1));
    }

    private static void suspect() {
        promise = 22;
        Rollover x = Houses.three();
        x.call(0, 1, 1439, 1, 0, 60);
        x.call(0, 0, 0, 2, 0, 60);
        due(0, () -> x.suspect(0));
        x.correct(0, 61);
        due(1, () -> x.suspect(0));
        due(0, () -> x.suspect(1));
        x.undo(1);
        due(0, () -> x.suspect(0));
        x.call(0, 0, 0, 3, 0, 1);
        x.call(0, 0, 0, 4, 0, 1);
        due(1, () -> x.suspect(0));
        // Voided calls do not count, nor do the numbers of other days.
        Rollover y = Houses.three();
        for (int k = 0; k < 4; k++) y.call(0, 1, 10 * k, k, 0, 1);
        y.call(0, 0, 500, 4, 0, 1);
        y.call(0, 1, 500, 3, 0, 1);
        due(0, () -> y.suspect(0));
        y.call(0, 1, 600, 15, 0, 1);
        due(2, () -> y.suspect(0));
        y.undo(6);
        due(0, () -> y.suspect(0));
        y.call(1, 10, 0, 0, 0, 1);
        y.call(1, 9, 0, 3, 0, 1);
        y.call(2, 0, 0, 4, 0, 1);
        y.call(1, 8, 0, 3, 0, 1);
        due(0, () -> y.suspect(0));
        y.call(1, 8, 0, 4, 0, 1);
        due(5, () -> y.suspect(1));
        due(4, () -> y.suspect(0));
        due(0, () -> y.suspect(2));
        y.undo(7);
        due(0, () -> y.suspect(0));
        refused(INDEX, y, () -> y.suspect(3));
        refused(INDEX, y, () -> y.suspect(-1));
    }

    private static void house() {
        promise = 23;
        Rollover x = Houses.three();
        x.plan(50, 0, 0);
        x.call(0, 0, 0, 1, 0, 301);
        x.call(0, 0, 0, 2, 0, 1);
        x.call(0, 0, 0, 2, 0, 1);
        x.addOn(1, 0, 0, 1, 1, 99);
        x.gift(0, 1, 0, 0, 1);
        x.undo(3);
        x.incoming(2, 100);
        x.port(0, 0, 0);
        int[] want = {40, 2, 3, 4, 1, 1, 30 + 5 + 5 + 99, 1, 6 + 1 - 100, 1};
        for (int k = 0; k <= 9; k++) {
            int what = k;
            due(want[k], () -> x.house(what));
        }
        x.pass(20);
        due(want[6] + 30, () -> x.house(6));
        refused(ARGUMENT, x, () -> x.house(-1));
        refused(ARGUMENT, x, () -> x.house(10));
    }

    private static void line() {
        promise = 24;
        Rollover x = Houses.three();
        x.child(1, 0, 30);
        x.circle(1, 8);
        x.call(1, 2, 0, 4, 0, 361);
        x.call(1, 1, 0, 3, 0, 361);
        x.gift(0, 2, 0, 0, 5);
        x.addOn(0, 10, 0, 555, 1, 0);
        due("call 0 on day 38: 300+30+90", () -> x.line(0));
        due("call 1 on day 39: free", () -> x.line(1));
        due("gift 2 on day 40: 5", () -> x.line(2));
        due("add-on 3 on day 30: 555", () -> x.line(3));
        for (int t = 0; t < 4; t++) x.undo(t);
        due("call 0 on day 38: 0+0+0 void", () -> x.line(0));
        due("call 1 on day 39: 0+0+0 void", () -> x.line(1));
        due("gift 2 on day 40: 0 void", () -> x.line(2));
        due("add-on 3 on day 30: 0 void", () -> x.line(3));
        refused(INDEX, x, () -> x.line(4));
        refused(INDEX, x, () -> x.line(-1));
    }

    private static void best() {
        promise = 25;
        Rollover x = Houses.three();
        x.plan(4, 0, 6);
        x.plan(4, 0, 6);
        due(4, () -> x.best(0, 1, true));
        due(1, () -> x.best(0, 1, false));
        x.call(0, 0, 0, 0, 0, 300);
        due(10, () -> x.best(0, 1, true));
        due(0, () -> x.best(0, 1, false));
        due(NONE, () -> x.best(0, 0, true));
        due(NONE, () -> x.best(0, 0, false));
        // A bill ahead of today is its fee; grants that were kept count, as if it had always had that plan.
        due(4, () -> x.best(0, 11, true));
        x.plan(1, 150, 9);
        x.units(3, 1, 60, 60, false);
        x.pass(20);
        x.call(0, 0, 0, 0, 0, 300);
        due(0, () -> x.best(0, 2, false));
        x.undo(0);
        due(3, () -> x.best(0, 2, false));
        due(1, () -> x.best(0, 2, true));
        due(0, () -> x.ofDay(0, 40, 0));
        refused(INDEX, x, () -> x.best(3, -1, true));
        refused(INDEX, x, () -> x.best(-1, 0, true));
        refused(ARGUMENT, x, () -> x.best(0, -1, false));
        refused(ARGUMENT, x, () -> x.best(0, 12, false));
    }

    private static void wouldCost() {
        promise = 26;
        Rollover x = Houses.three();
        due(0, () -> x.wouldCost(0, 500, 0, 0, 300));
        due(5 * 175, () -> x.wouldCost(0, 500, 0, 3, 301));
        x.call(0, 0, 500, 0, 0, 300);
        // As if it were not doubled, behind the call of the same minute; ahead of it there is more left.
        due(500, () -> x.wouldCost(0, 500, 0, 0, 60));
        due(0, () -> x.wouldCost(0, 499, 0, 0, 60));
        due(0, () -> x.house(5));
        due(1, () -> x.house(3));
        x.circle(0, 4);
        due(0, () -> x.wouldCost(0, 500, 2, 0, 60));
        // Nothing of a call that was only tried is left behind.
        due(0, () -> x.suspect(0));
        due(0, () -> x.settlement(1) + x.settlement(2) + x.settlement(3));
        due(0, () -> x.wouldCost(1, 0, 0, 0, 1));
        due(1, () -> x.call(1, 0, 0, 0, 0, 1));
        x.undo(1);
        for (int k = 2; k < 48; k++) x.call(0, 0, 500 + k, 0, 0, 1);
        refused("500", x, () -> "" + x.wouldCost(0, 700, 0, 0, 60));
        due(47, () -> x.ofTicket(47, 10));
        due(STATE, () -> x.call(0, 0, 700, 0, 0, 60));
        refused(INDEX, x, () -> x.wouldCost(3, -1, 0, 0, 1));
        refused(INDEX, x, () -> x.wouldCost(-1, 0, 0, 0, 1));
        refused(INDEX, x, () -> x.wouldCost(0, 0, 16, 0, 1));
        refused(INDEX, x, () -> x.wouldCost(0, 0, -1, 0, 1));
        refused(ARGUMENT, x, () -> x.wouldCost(0, -1, 0, 0, 1));
        refused(ARGUMENT, x, () -> x.wouldCost(0, 1440, 0, 0, 1));
        refused(ARGUMENT, x, () -> x.wouldCost(0, 0, 0, -1, 1));
        refused(ARGUMENT, x, () -> x.wouldCost(0, 0, 0, 4, 1));
        refused(ARGUMENT, x, () -> x.wouldCost(0, 0, 0, 0, 0));
        refused(ARGUMENT, x, () -> x.wouldCost(0, 0, 0, 0, 10000));
    }

    private static void isSound() {
        promise = 27;
        Rollover x = Houses.three();
        x.child(1, 0, 30);
        x.steps(0, 60, 99, 7);
        x.call(1, 0, 0, 0, 3, 9999);
        x.call(1, 0, 1, 0, 3, 9999);
        x.gift(0, 1, 5, 0, 9999);
        due(true, () -> x.isSound());
        x.steps(0, 0, 0, 1);
        x.child(1, 0, 0);
        x.undo(2);
        due(true, () -> x.isSound());
    }

    private static void digest() {
        promise = 28;
        Rollover x = Houses.three();
        x.child(1, 0, 30);
        x.call(1, 0, 0, 3, 3, 999);
        x.gift(0, 2, 0, 0, 5);
        x.undo(1);
        x.port(9, 2, 7);
        x.incoming(3, 44);
        long d = 8111;
        for (int w = 0; w < 10; w++) d = d * 31 + x.house(w);
        for (int c = 0; c < 3; c++) {
            for (int w = 0; w < 4; w++) d = d * 31 + x.ofDay(c, 40, w);
            for (int k = 0; k < 2; k++) for (int w = 0; w < 8; w++) d = d * 31 + x.ofCycle(c, k, w);
        }
        for (int t = 0; t < 2; t++) for (int w = 5; w <= 10; w++) d = d * 31 + x.ofTicket(t, w);
        for (int n = 0; n < 16; n++) d = d * 31 + x.carrier(n, 40);
        for (int c = 1; c < 4; c++) d = d * 31 + x.settlement(c);
        d = d * 31 + (x.isSound() ? 1 : 0);
        long want = d;
        due(want, () -> x.digest());
    }
}
