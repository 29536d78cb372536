/**
 * Each bound that an argument has: just inside and just outside, at both ends; which exception is thrown if several
 * apply; and that what is refused changes nothing.
 */
public final class BoundTests extends Checks {
    private interface House {
        Rollover make();
    }

    private interface Call {
        Object on(Rollover x, int[] a);
    }

    /** An argument's least and most, and what is thrown outside of these. */
    private record Arg(int least, int most, String refusal) {
        int[] outside() {
            return new int[] {least - 1, most + 1, Integer.MIN_VALUE, Integer.MAX_VALUE};
        }
    }

    private static final House RICH = Houses::rich;
    private static Call call;
    private static int[] good;
    private static Arg[] args;

    private static Arg index(int least, int most) {
        return new Arg(least, most, INDEX);
    }

    private static Arg range(int least, int most) {
        return new Arg(least, most, ARGUMENT);
    }

    public static void main(String[] unused) {
        plans();
        customers();
        child();
        circle();
        pass();
        tickets();
        corrections();
        carriers();
        questions();
        whatWouldBe();
        end();
    }

    private static void method(int of, Call c, int[] arguments, Arg... bounds) {
        promise = of;
        call = c;
        good = arguments;
        args = bounds;
    }

    private static int[] with(int k, int value) {
        int[] a = good.clone();
        a[k] = value;
        return a;
    }

    private static String told(int[] a) {
        return java.util.Arrays.toString(a);
    }

    private static void refusedIn(House house, String want, int[] a, String untouched) {
        Rollover x = house.make();
        dueOf(told(a), want, () -> call.on(x, a));
        dueOf("behind " + told(a), untouched, () -> Houses.picture(x));
    }

    /** Each argument at its least and most is taken, and it makes a difference which of both it is. */
    private static void tellsWithin(House house) {
        String untouched = Houses.picture(house.make());
        for (int k = 0; k < args.length; k++) {
            String[] then = new String[2];
            for (int end = 0; end < 2; end++) {
                int[] a = with(k, end == 0 ? args[k].least : args[k].most);
                Rollover x = house.make();
                dueOf(told(a), true, () -> call.on(x, a) instanceof Integer);
                then[end] = Houses.picture(x);
                String picture = then[end];
                dueOf("behind " + told(a), false, () -> picture.equals(untouched));
            }
            dueOf("argument " + k, false, () -> then[0].equals(then[1]));
        }
    }

    /** Each argument at its least and most is answered, and nothing is changed by that. */
    private static void asksWithin(House house) {
        String untouched = Houses.picture(house.make());
        for (int k = 0; k < args.length; k++) {
            for (int value : new int[] {args[k].least, args[k].most}) {
                int[] a = with(k, value);
                Rollover x = house.make();
                dueOf(told(a), false, () -> answer(() -> call.on(x, a)).toString().endsWith("Exception"));
                dueOf("behind " + told(a), untouched, () -> Houses.picture(x));
            }
        }
    }

    /** One argument outside, all others within, at both ends; then two of them, and all. */
    private static void refusesOutside(House house) {
        String untouched = Houses.picture(house.make());
        int[] all = good.clone();
        for (int k = 0; k < args.length; k++) {
            for (int value : args[k].outside()) {
                refusedIn(house, args[k].refusal, with(k, value), untouched);
                all[k] = value;
                for (int j = 0; j < k; j++) refusesBoth(house, j, k, value, untouched);
            }
        }
        refusedIn(house, firstOf(0, args.length - 1), all, untouched);
    }

    private static void refusesBoth(House house, int j, int k, int value, String untouched) {
        for (int end = 0; end < 2; end++) {
            int[] a = with(k, value);
            a[j] = args[j].outside()[end];
            refusedIn(house, INDEX.equals(args[j].refusal) ? INDEX : args[k].refusal, a, untouched);
        }
    }

    /** All methods with both name IndexOutOfBoundsException first. */
    private static String firstOf(int from, int to) {
        for (int k = from; k <= to; k++) {
            if (INDEX.equals(args[k].refusal)) return INDEX;
        }
        return ARGUMENT;
    }

    private static void tells() {
        tellsWithin(RICH);
        refusesOutside(RICH);
    }

    private static void asks() {
        asksWithin(RICH);
        refusesOutside(RICH);
    }

    /** Where there is no more room, IllegalStateException comes behind the others. */
    private static void refusesIfFull(House full) {
        refusedIn(full, STATE, good, Houses.picture(full.make()));
        refusesOutside(full);
    }

    private static Rollover fullOfTickets() {
        Rollover x = Houses.rich();
        for (int k = x.house(3); k < 48; k++) x.call(0, 0, k, 0, 0, 1);
        return x;
    }

    private static void plans() {
        // What a PLAN costs shows as its CUSTOMER JOINS.
        method(2, (x, a) -> {
            Object number = x.plan(a[0], a[1], a[2]);
            x.join(2, 0);
            x.call(4, 0, 600, 0, 0, 9999);
            return number;
        }, new int[] {30, 500, 6}, range(0, 99), range(0, 9999), range(0, 99));
        tells();
        refusesIfFull(() -> {
            Rollover x = Houses.rich();
            for (int k = 2; k < 5; k++) x.plan(1, 2, 3);
            return x;
        });
        method(3, (x, a) -> x.units(a[0], a[1], a[2], a[3], a[4] == 1), new int[] {1, 2, 40, 35, 0}, index(0, 1),
                range(0, 3), range(1, 120), range(6, 120));
        tells();
        good[4] = 1;
        tells();
        // No CAP and the largest one make no difference here: that is for RatingTests.
        method(4, (x, a) -> x.steps(a[0], a[1], a[2], a[3]), new int[] {1, 70, 4, 200}, index(0, 1), range(0, 9999),
                range(0, 99), range(1, 999));
        tellsWithin(RICH);
        method(4, call, good, index(0, 1), range(0, 9999), range(0, 99), range(0, 999));
        refusesOutside(RICH);
    }

    private static void customers() {
        method(5, (x, a) -> x.join(a[0], a[1]), new int[] {0, 3}, index(0, 1), range(0, 65));
        tells();
        refusesIfFull(() -> {
            Rollover x = Houses.rich();
            for (int k = 4; k < 8; k++) x.join(0, 65);
            return x;
        });
        // 0 had PLAN 0 all along, so that each change to PLAN 1 shows.
        method(6, (x, a) -> x.change(a[0], a[1]), new int[] {0, 1}, index(0, 3), index(0, 1));
        refusesOutside(RICH);
        method(6, (x, a) -> {
            x.change(2, 1);
            return x.change(a[0], a[1]);
        }, new int[] {2, 0}, index(0, 3));
        tellsWithin(RICH);
        method(6, (x, a) -> x.change(2, a[0]), new int[] {0}, index(0, 1));
        due(0, () -> call.on(Houses.rich(), new int[] {0}));
        due(0, () -> call.on(Houses.rich(), new int[] {1}));
    }

    private static void child() {
        promise = 8;
        method(8, (x, a) -> x.child(a[0], a[1], a[2]), new int[] {1, 3, 120}, index(0, 3), index(-1, 3),
                range(0, 9999));
        refusesOutside(RICH);
        method(8, (x, a) -> x.child(2, 0, a[0]), new int[] {120}, range(0, 9999));
        tells();
        String untouched = Houses.picture(Houses.rich());
        method(8, (x, a) -> x.child(a[0], a[1], a[2]), good);
        // "if both are the same, or limit is not 0 to 9999" is named ahead of "if the parent is a CHILD".
        for (int c = 0; c < 4; c++) refusedIn(RICH, ARGUMENT, new int[] {c, c, 0}, untouched);
        refusedIn(RICH, ARGUMENT, new int[] {1, 2, 10000}, untouched);
        refusedIn(RICH, ARGUMENT, new int[] {0, 1, -1}, untouched);
        refusedIn(RICH, STATE, new int[] {1, 2, 0}, untouched);
        refusedIn(RICH, STATE, new int[] {0, 1, 9999}, untouched);
        // NONE and the last CUSTOMER are both taken; whoever has a CHILD may well be of nobody.
        due(0, () -> Houses.rich().child(2, -1, 0));
        due(0, () -> Houses.rich().child(2, 3, 9999));
        due(NONE, () -> Houses.rich().child(3, 0, 0));
        due(NONE, () -> Houses.rich().child(0, -1, 9999));
        // Two who refuse each other: the CUSTOMER has a CHILD, and the parent is one.
        refusedIn(RICH, STATE, new int[] {0, 2, 5}, untouched);
    }

    private static void circle() {
        // 0xf000 are the four last NUMBERS; one more is too many, as are 65535 in all.
        method(7, (x, a) -> x.circle(a[0], a[1]), new int[] {1, 6}, index(0, 3), range(0, 0xf000));
        refusesOutside(RICH);
        String untouched = Houses.picture(Houses.rich());
        for (int set : new int[] {0x1f, 0xf8, 0xf800, 0xffff, 0x10000, 0x10001, -1}) {
            refusedIn(RICH, ARGUMENT, new int[] {0, set}, untouched);
            refusedIn(RICH, INDEX, new int[] {4, set}, untouched);
        }
        int[][] sets = {{0, 0}, {1, 1}, {0x8000, 1}, {0xf, 4}, {0xf000, 4}, {0x8001, 2}, {0x7, 3}, {0x8421, 4}};
        for (int[] set : sets) dueOf("circle of " + set[0], set[1], () -> Houses.rich().circle(3, set[0]));
        method(7, (x, a) -> x.circle(a[0], 0xcc), new int[] {2}, index(2, 3));
        tellsWithin(RICH);
    }

    private static void pass() {
        method(9, (x, a) -> x.pass(a[0]), new int[] {7}, range(1, 120));
        tells();
        due(66, () -> Houses.rich().pass(1));
        due(185, () -> Houses.rich().pass(120));
        House late = () -> {
            Rollover x = Houses.rich();
            Houses.passTo(x, 300);
            return x;
        };
        String untouched = Houses.picture(late.make());
        due(359, () -> late.make().pass(59));
        refusedIn(late, STATE, new int[] {60}, untouched);
        refusedIn(late, STATE, new int[] {120}, untouched);
        refusesOutside(late);
        // On the last DAY but one, and on the last one.
        House last = () -> {
            Rollover x = late.make();
            x.pass(58);
            return x;
        };
        due(359, () -> last.make().pass(1));
        refusedIn(last, STATE, new int[] {2}, Houses.picture(last.make()));
    }

    private static void tickets() {
        // 2 JOINED 20 DAYS ago, 3 did 15 DAYS ago.
        method(10, (x, a) -> x.call(a[0], a[1], a[2], a[3], a[4], a[5]), new int[] {2, 12, 720, 5, 1, 250},
                index(0, 3), range(0, 20), range(0, 1439), index(0, 15), range(0, 3), range(1, 9999));
        tells();
        refusesIfFull(BoundTests::fullOfTickets);
        method(11, (x, a) -> x.gift(a[0], a[1], a[2], a[3], a[4]), new int[] {1, 2, 12, 720, 60}, index(0, 3),
                index(0, 3), range(0, 20), range(0, 1439), range(1, 9999));
        tells();
        refusesIfFull(BoundTests::fullOfTickets);
        bothOfAGift();
        method(12, (x, a) -> x.addOn(a[0], a[1], a[2], a[3], a[4], a[5]), new int[] {2, 12, 720, 60, 30, 5},
                index(0, 3), range(0, 20), range(0, 1439), range(1, 9999), range(1, 90), range(0, 99));
        tells();
        refusesIfFull(BoundTests::fullOfTickets);
    }

    /** "if both are the same, the DAY is not from both JOININGS to TODAY" */
    private static void bothOfAGift() {
        String untouched = Houses.picture(Houses.rich());
        for (int c = 0; c < 4; c++) refusedIn(RICH, ARGUMENT, new int[] {c, c, 0, 0, 1}, untouched);
        refusedIn(RICH, INDEX, new int[] {4, 4, 0, 0, 1}, untouched);
        // The later one of both JOININGS counts, whoever it is who gives.
        due(8, () -> Houses.rich().gift(0, 3, 15, 0, 1));
        refusedIn(RICH, ARGUMENT, new int[] {0, 3, 16, 0, 1}, untouched);
        due(8, () -> Houses.rich().gift(3, 0, 15, 0, 1));
        refusedIn(RICH, ARGUMENT, new int[] {3, 0, 16, 0, 1}, untouched);
        House full = BoundTests::fullOfTickets;
        refusedIn(full, ARGUMENT, new int[] {1, 1, 0, 0, 1}, Houses.picture(full.make()));
    }

    private static void corrections() {
        method(13, (x, a) -> x.correct(a[0], a[1]), new int[] {1, 60}, index(0, 7), range(1, 9999));
        tells();
        String untouched = Houses.picture(Houses.rich());
        // A GIFT, an ADD-ON and a VOIDED CALL are refused, but behind SECONDS that can't be.
        for (int ticket = 3; ticket <= 5; ticket++) {
            refusedIn(RICH, STATE, new int[] {ticket, 60}, untouched);
            refusedIn(RICH, STATE, new int[] {ticket, 1}, untouched);
            refusedIn(RICH, ARGUMENT, new int[] {ticket, 0}, untouched);
            refusedIn(RICH, ARGUMENT, new int[] {ticket, 10000}, untouched);
        }
        method(14, (x, a) -> x.undo(a[0]), new int[] {1}, index(0, 7));
        tells();
        refusedIn(RICH, STATE, new int[] {5}, untouched);
    }

    private static void carriers() {
        method(15, (x, a) -> x.port(a[0], a[1], a[2]), new int[] {2, 1, 5}, index(0, 15), index(0, 3), range(0, 65));
        tells();
        refusesIfFull(() -> {
            Rollover x = Houses.rich();
            for (int k = 1; k < 20; k++) x.port(k % 16, k % 3, k);
            return x;
        });
        method(16, (x, a) -> x.incoming(a[0], a[1]), new int[] {1, 5}, index(1, 3), range(1, 9999));
        tellsWithin(RICH);
        method(16, (x, a) -> x.incoming(a[0], a[1]), new int[] {1, 0}, index(1, 3), range(0, 9999));
        refusesOutside(RICH);
        due("0 0", () -> {
            Rollover x = Houses.rich();
            int before = x.settlement(3);
            return (x.incoming(3, 0) - before) + " " + (x.settlement(3) - before);
        });
    }

    private static void questions() {
        method(17, (x, a) -> x.ofDay(a[0], a[1], a[2]), new int[] {1, 33, 1}, index(0, 3), range(0, 65), range(0, 3));
        asks();
        method(18, (x, a) -> x.ofCycle(a[0], a[1], a[2]), new int[] {1, 2, 1}, index(0, 3), range(0, 11), range(0, 7));
        asks();
        method(19, (x, a) -> x.ofTicket(a[0], a[1]), new int[] {3, 9}, index(0, 7), range(0, 10));
        asks();
        method(20, (x, a) -> x.carrier(a[0], a[1]), new int[] {6, 40}, index(0, 15), range(0, 65));
        asks();
        method(21, (x, a) -> x.settlement(a[0]), new int[] {2}, index(1, 3));
        asks();
        method(22, (x, a) -> x.suspect(a[0]), new int[] {2}, index(0, 3));
        asks();
        method(23, (x, a) -> x.house(a[0]), new int[] {6}, range(0, 9));
        asks();
        method(24, (x, a) -> x.line(a[0]), new int[] {2}, index(0, 7));
        asks();
    }

    private static void whatWouldBe() {
        for (int isBill = 0; isBill < 2; isBill++) {
            method(25, (x, a) -> x.best(a[0], a[1], a[2] == 1), new int[] {1, 2, isBill}, index(0, 3), range(0, 11));
            asks();
        }
        method(26, (x, a) -> x.wouldCost(a[0], a[1], a[2], a[3], a[4]), new int[] {2, 720, 5, 1, 600}, index(0, 3),
                range(0, 1439), index(0, 15), range(0, 3), range(1, 9999));
        asks();
        asksWithin(BoundTests::fullOfTickets);
        refusesOutside(BoundTests::fullOfTickets);
        method(27, (x, a) -> x.isSound(), new int[] {0}, range(0, 0));
        asksWithin(RICH);
        method(28, (x, a) -> x.digest(), new int[] {0}, range(0, 0));
        asksWithin(RICH);
    }
}
