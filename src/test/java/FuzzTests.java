/** Long runs of calls, good and bad, each answered by Rollover and by NaiveHouse, and held against each other. */
public final class FuzzTests {
    private static final int RUNS = 400;
    private static final int CALLS = 300;
    // What an object answers behind its 512th call is free.
    private static final int MOST_CALLS = 512;
    private static int made;
    private static int wrong = 0;
    private static long state;

    /** The same numbers in every run: what fails once fails again. */
    private static int next(int bound) {
        state = state * 6364136223846793005L + 1442695040888963407L;
        return (int) ((state >>> 33) % bound);
    }

    /** Mostly within, at times at the edges, now and then outside. */
    private static int about(int least, int most) {
        int kind = next(40);
        if (kind == 0) return least - 1;
        if (kind == 1) return most + 1;
        if (kind == 2) return next(2) == 0 ? Integer.MIN_VALUE : Integer.MAX_VALUE;
        if (kind < 6) return least;
        if (kind < 9) return most;
        return most < least ? least : least + next(most - least + 1);
    }

    private interface Question {
        Object ask();
    }

    private static Object answer(Question q) {
        try {
            return q.ask();
        } catch (RuntimeException e) {
            return e.getClass().getName();
        }
    }

    private static void same(int run, String what, Question mine, Question naive) {
        made++;
        Object got = answer(mine);
        Object want = answer(naive);
        if (!got.equals(want)) {
            wrong++;
            System.out.println("run " + run + ": " + what + " answered " + got + ", naively " + want);
        }
    }

    public static void main(String[] args) {
        for (int run = 0; run < RUNS && wrong < 20; run++) oneRun(run);
        System.out.println((wrong == 0 ? "1 passed, 0" : "0 passed, 1") + " failed");
        if (wrong != 0) System.exit(1);
    }

    private static void oneRun(int run) {
        state = 77 + run * 1000003L;
        made = 0;
        Rollover x = new Rollover();
        NaiveHouse y = new NaiveHouse();
        boolean isTight = next(2) == 0;
        int spread = isTight ? 3 : 1440;
        if (next(8) != 0) setUp(run, x, y);
        for (int k = 0; k < CALLS; k++) {
            if (next(3) != 0) tell(run, x, y, spread);
            else ask(run, x, y);
        }
        same(run, "digest()", () -> x.digest(), () -> y.digest());
        while (made < MOST_CALLS - 1) ask(run, x, y);
        same(run, "the last digest()", () -> x.digest(), () -> y.digest());
    }

    private static void setUp(int run, Rollover x, NaiveHouse y) {
        int plans = 1 + next(5);
        for (int p = 0; p < plans; p++) {
            int plan = p, fee = next(100), grant = next(3) == 0 ? 9999 : next(600), price = next(100), keep = next(4);
            int first = 1 + next(120), unit = 6 + next(115), step = next(2000), later = next(100);
            int cap = next(2) == 0 ? 0 : next(1000);
            boolean night = next(2) == 0;
            same(run, "plan", () -> x.plan(fee, grant, price), () -> y.plan(fee, grant, price));
            same(run, "units", () -> x.units(plan, keep, first, unit, night),
                    () -> y.units(plan, keep, first, unit, night));
            same(run, "steps", () -> x.steps(plan, step, later, cap), () -> y.steps(plan, step, later, cap));
        }
        int days = 1 + next(90);
        same(run, "pass", () -> x.pass(days), () -> y.pass(days));
        int customers = 1 + next(8);
        for (int c = 0; c < customers; c++) {
            int plan = next(plans), ago = next(days + 1);
            same(run, "join", () -> x.join(plan, ago), () -> y.join(plan, ago));
        }
    }

    private static void tell(int run, Rollover x, NaiveHouse y, int spread) {
        int c = about(0, y.customers.size() - 1), o = about(0, y.customers.size() - 1);
        int p = about(0, y.plans.size() - 1), t = about(0, y.tickets.size() - 1);
        int joined = within(c, y.customers.size()) ? y.customers.get(c).joined : 0;
        int ago = next(2) == 0 ? about(0, Math.min(3, y.today - joined)) : about(0, y.today - joined);
        int minute = spread < 10 ? about(0, spread) : about(0, 1439);
        int number = next(2) == 0 ? about(0, 4) : about(0, 15), zone = about(0, 3);
        int seconds = next(2) == 0 ? about(1, 300) : about(1, 9999);
        int a = about(0, 99), b = about(0, 9999), d = about(0, 99), e = about(0, 999);
        switch (next(20)) {
            case 0:
                if (next(4) == 0) same(run, "plan", () -> x.plan(a, b, d), () -> y.plan(a, b, d));
                break;
            case 1: {
                int keep = about(0, 3), first = about(1, 120), unit = about(6, 120);
                boolean night = next(2) == 0;
                same(run, "units", () -> x.units(p, keep, first, unit, night),
                        () -> y.units(p, keep, first, unit, night));
                break;
            }
            case 2: {
                int step = next(2) == 0 ? about(0, 9999) : next(500), cap = next(2) == 0 ? e : next(30);
                same(run, "steps", () -> x.steps(p, step, d, cap), () -> y.steps(p, step, d, cap));
                break;
            }
            case 3: {
                int since = about(0, y.today);
                if (next(3) == 0) same(run, "join", () -> x.join(p, since), () -> y.join(p, since));
                break;
            }
            case 4:
                same(run, "change", () -> x.change(c, p), () -> y.change(c, p));
                break;
            case 5: {
                int numbers = next(3) == 0 ? about(0, 65535) : 1 << next(16) | 1 << next(16);
                same(run, "circle", () -> x.circle(c, numbers), () -> y.circle(c, numbers));
                break;
            }
            case 6: {
                int parent = next(5) == 0 ? -1 : o, limit = next(2) == 0 ? b : next(300);
                same(run, "child", () -> x.child(c, parent, limit), () -> y.child(c, parent, limit));
                break;
            }
            case 7: {
                int days = next(3) == 0 ? about(1, 120) : 1 + next(12);
                if (next(2) == 0) same(run, "pass", () -> x.pass(days), () -> y.pass(days));
                break;
            }
            case 8:
            case 9:
                same(run, "gift", () -> x.gift(c, o, ago, minute, seconds), () -> y.gift(c, o, ago, minute, seconds));
                break;
            case 10: {
                int days = about(1, 90);
                same(run, "addOn", () -> x.addOn(c, ago, minute, seconds, days, a),
                        () -> y.addOn(c, ago, minute, seconds, days, a));
                break;
            }
            case 11:
                same(run, "correct", () -> x.correct(t, seconds), () -> y.correct(t, seconds));
                break;
            case 12:
                if (next(2) == 0) same(run, "undo", () -> x.undo(t), () -> y.undo(t));
                break;
            case 13: {
                int since = about(0, y.today);
                same(run, "port", () -> x.port(number, zone, since), () -> y.port(number, zone, since));
                break;
            }
            case 14: {
                int carrier = about(1, 3);
                same(run, "incoming", () -> x.incoming(carrier, b), () -> y.incoming(carrier, b));
                break;
            }
            default:
                same(run, "call", () -> x.call(c, ago, minute, number, zone, seconds),
                        () -> y.call(c, ago, minute, number, zone, seconds));
        }
    }

    private static boolean within(int index, int count) {
        return index >= 0 && index < count;
    }

    private static void ask(int run, Rollover x, NaiveHouse y) {
        int c = about(0, y.customers.size() - 1), t = about(0, y.tickets.size() - 1);
        int day = about(0, y.today), cycle = about(0, 11), number = about(0, 15), carrier = about(1, 3);
        switch (next(12)) {
            case 0:
            case 1: {
                int what = about(0, 3);
                same(run, "ofDay " + day + " " + what, () -> x.ofDay(c, day, what), () -> y.ofDay(c, day, what));
                break;
            }
            case 2: {
                int what = about(0, 7);
                same(run, "ofCycle " + what, () -> x.ofCycle(c, cycle, what), () -> y.ofCycle(c, cycle, what));
                break;
            }
            case 3: {
                int what = about(0, 10);
                same(run, "ofTicket " + what, () -> x.ofTicket(t, what), () -> y.ofTicket(t, what));
                break;
            }
            case 4:
                same(run, "carrier", () -> x.carrier(number, day), () -> y.carrier(number, day));
                break;
            case 5:
                same(run, "settlement", () -> x.settlement(carrier), () -> y.settlement(carrier));
                break;
            case 6:
                same(run, "suspect", () -> x.suspect(c), () -> y.suspect(c));
                break;
            case 7: {
                int what = about(0, 9);
                same(run, "house " + what, () -> x.house(what), () -> y.house(what));
                break;
            }
            case 8:
                same(run, "line", () -> x.line(t), () -> y.line(t));
                break;
            case 9: {
                boolean isBill = next(2) == 0;
                same(run, "best", () -> x.best(c, cycle, isBill), () -> y.best(c, cycle, isBill));
                break;
            }
            case 10: {
                int minute = about(0, 1439), zone = about(0, 3), seconds = about(1, 9999);
                same(run, "wouldCost", () -> x.wouldCost(c, minute, number, zone, seconds),
                        () -> y.wouldCost(c, minute, number, zone, seconds));
                break;
            }
            default:
                same(run, "isSound", () -> x.isSound(), () -> true);
        }
    }
}
