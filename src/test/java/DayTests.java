/** DAYS, MINUTES and CYCLES at their ends; PLANS that change; CHILDREN; TICKETS IN TIME. */
public final class DayTests extends Checks {
    public static void main(String[] args) {
        firstAndLastDay();
        firstAndLastMinute();
        daysOfEachCycle();
        today();
        joiningsAtTheEdgesOfACycle();
        nothingAheadOfTheJoining();
        changeOnTheDayOfTheJoining();
        changeOnTheFirstAndLastDayOfACycle();
        changeToldTwice();
        planOfADayAheadOfToday();
        planOfTheCallsDay();
        noChildOfAChild();
        ofNobodyAgain();
        limitJustReached();
        limitOfEachCycle();
        limitHoldsForAllDays();
        ownFirstThenParents();
        severalChildrenOfOne();
        parentAheadOfItsJoining();
        ticketsOnTheDayOfTheJoining();
        doubledInWhat();
        doubledOfWhatWasVoidedOrCorrected();
        byDayThenMinuteThenNumber();
        placesInTime();
        voidedAsIfNotThere();
        end();
    }

    /** "DAYS are 0 to 359; TODAY is 0 at first." */
    private static void firstAndLastDay() {
        promise = 9;
        Rollover x = Houses.of(1, 60, 1, 1);
        due(0, () -> x.house(0));
        due(0, () -> x.call(0, 0, 0, 0, 0, 60));
        due(0, () -> x.ofTicket(0, 2));
        due(0, () -> x.ofDay(0, 0, 1));
        refused(ARGUMENT, x, () -> x.ofDay(0, 1, 1));
        refused(ARGUMENT, x, () -> x.carrier(0, 1));
        refused(ARGUMENT, x, () -> x.call(0, 1, 0, 0, 0, 60));
        refused(ARGUMENT, x, () -> x.port(0, 0, 1));
        refused(ARGUMENT, x, () -> x.join(0, 1));
        due(120, () -> x.pass(120));
        due(240, () -> x.pass(120));
        refused(STATE, x, () -> x.pass(120));
        due(358, () -> x.pass(118));
        refused(STATE, x, () -> x.pass(2));
        due(359, () -> x.pass(1));
        refused(STATE, x, () -> x.pass(1));
        refused(STATE, x, () -> x.pass(120));
        due(359, () -> x.house(0));
        due(1, () -> x.call(0, 0, 1439, 0, 0, 60));
        due(359, () -> x.ofTicket(1, 2));
        due(0, () -> x.ofDay(0, 359, 1));
        due(2, () -> x.call(0, 359, 0, 1, 0, 60));
        due(0, () -> x.ofTicket(2, 2));
        due("call 2 on day 0: 0+0+60", () -> x.line(2));
        due(1, () -> x.join(0, 359));
        due(0, () -> x.port(0, 3, 359));
        due(3, () -> x.carrier(0, 0));
        due(3, () -> x.carrier(0, 359));
        refused(ARGUMENT, x, () -> x.ofDay(0, 360, 0));
        refused(ARGUMENT, x, () -> x.carrier(0, 360));
        refused(ARGUMENT, x, () -> x.join(0, 360));
        due(12 + 1 + 12, () -> x.house(6));
    }

    /** "MINUTES of a DAY are 0 to 1439" */
    private static void firstAndLastMinute() {
        promise = 10;
        Rollover x = Houses.of(0, 60, 1, 1);
        x.pass(1);
        due(0, () -> x.call(0, 0, 0, 0, 0, 60));
        due(1, () -> x.call(0, 1, 1439, 0, 0, 60));
        // The last MINUTE of a DAY is ahead of the first one of the next.
        due("call 0 on day 1: 0+0+60", () -> x.line(0));
        due("call 1 on day 0: 60+0+0", () -> x.line(1));
        due(1439, () -> x.ofTicket(1, 3));
        due(0, () -> x.ofTicket(0, 3));
        due(100, () -> x.wouldCost(0, 0, 0, 0, 60));
        due(100, () -> x.wouldCost(0, 1439, 0, 0, 60));
    }

    /** "CYCLE k has the DAYS 30 * k to 30 * k + 29 (0 to 11)" */
    private static void daysOfEachCycle() {
        promise = 18;
        Rollover x = Houses.of(7, 0, 1, 1);
        Houses.passTo(x, 359);
        for (int k = 0; k < 12; k++) {
            x.call(0, 359 - 30 * k, 0, 0, 0, 60);
            x.call(0, 359 - 30 * k - 29, 1439, 0, 0, 120);
            x.addOn(0, 359 - 30 * k, 1439, 1, 1, k);
            x.addOn(0, 359 - 30 * k - 29, 1439, 1, 1, 2 * k);
        }
        for (int k = 0; k < 12; k++) {
            int cycle = k;
            due(2, () -> x.ofCycle(0, cycle, 5));
            due(300, () -> x.ofCycle(0, cycle, 1));
            due(3 * cycle, () -> x.ofCycle(0, cycle, 7));
            due(7 + 3 * cycle + 3, () -> x.ofCycle(0, cycle, 0));
        }
        due(12 * 10 + 3 * 66, () -> x.house(6));
    }

    /** "TODAY or an earlier DAY alone brings such a BUCKET", and "CYCLES up to that of TODAY" */
    private static void today() {
        promise = 23;
        Rollover x = Houses.of(5, 100, 1, 2);
        x.pass(29);
        due(10, () -> x.house(6));
        due(100, () -> x.ofDay(0, 29, 3));
        x.pass(1);
        due(20, () -> x.house(6));
        due(100, () -> x.ofDay(0, 30, 1));
        due(1, () -> x.ofDay(0, 30, 2));
        x.pass(29);
        due(20, () -> x.house(6));
        x.pass(1);
        due(30, () -> x.house(6));
    }

    /** "A CUSTOMER .. each JOINED on a DAY", the first and the last one of a CYCLE */
    private static void joiningsAtTheEdgesOfACycle() {
        promise = 5;
        Rollover x = new Rollover();
        x.plan(9, 90, 1);
        x.pass(60);
        x.join(0, 31);
        x.join(0, 30);
        x.join(0, 1);
        x.join(0, 0);
        int[][] bills = {{9, 9, 9, 9}, {NONE, 9, 9, 9}, {NONE, 9, 9, 9}, {NONE, NONE, 9, 9}};
        for (int c = 0; c < 4; c++) {
            for (int k = 0; k < 4; k++) {
                int customer = c, cycle = k;
                due(bills[c][k], () -> x.ofCycle(customer, cycle, 0));
                due(bills[c][k], () -> x.best(customer, cycle, true));
                due(bills[c][k] == NONE ? NONE : 0, () -> x.best(customer, cycle, false));
            }
        }
        due(9 * (3 + 2 + 2 + 1), () -> x.house(6));
        due(3, () -> x.ofDay(0, 29, 3));
        due(90, () -> x.ofDay(0, 30, 1));
        due(90, () -> x.ofDay(1, 30, 1));
        due(3, () -> x.ofDay(2, 59, 1));
        due(90, () -> x.ofDay(2, 60, 1));
        due(90, () -> x.ofDay(3, 60, 1));
    }

    /** "NONE ahead of its JOINING", "0 ahead of its JOINING" */
    private static void nothingAheadOfTheJoining() {
        promise = 17;
        Rollover x = Houses.of(9, 90, 1, 1);
        x.pass(50);
        x.join(0, 10);
        int[] ahead = {NONE, 0, 0, 0};
        int[] then = {0, 60, 1, 0};
        for (int k = 0; k < 4; k++) {
            int what = k;
            due(ahead[k], () -> x.ofDay(1, 0, what));
            due(ahead[k], () -> x.ofDay(1, 39, what));
            due(then[k], () -> x.ofDay(1, 40, what));
            due(then[k], () -> x.ofDay(1, 50, what));
        }
        promise = 18;
        for (int k = 0; k < 8; k++) {
            int what = k;
            due(k == 0 ? NONE : 0, () -> x.ofCycle(1, 0, what));
        }
    }

    /** "(of the CYCLE in which it JOINED: of the DAY of its JOINING)" */
    private static void changeOnTheDayOfTheJoining() {
        promise = 6;
        Rollover x = twoPlans();
        x.pass(45);
        x.join(0, 0);
        due(0, () -> x.change(0, 1));
        due(1, () -> x.ofDay(0, 45, 0));
        due(20, () -> x.ofCycle(0, 1, 0));
        due(300, () -> x.ofDay(0, 45, 1));
        // A DAY behind its JOINING it is too late for that.
        Rollover y = twoPlans();
        y.pass(45);
        y.join(0, 1);
        y.change(0, 1);
        due(10, () -> y.ofCycle(0, 1, 0));
        due(20, () -> y.ofCycle(0, 2, 0));
        due(300 * 16 / 30, () -> y.ofDay(0, 45, 1));
    }

    /** PLAN 0: FEE 10, GRANT 300, PRICE 5; PLAN 1: FEE 20, GRANT 600, PRICE 1. */
    private static Rollover twoPlans() {
        Rollover x = new Rollover();
        x.plan(10, 300, 5);
        x.plan(20, 600, 1);
        return x;
    }

    /** "the FEE of its PLAN of the first DAY of that CYCLE", "the GRANT of its PLAN of that DAY" */
    private static void changeOnTheFirstAndLastDayOfACycle() {
        promise = 6;
        // {DAY of the change, FEES of CYCLES 0, 1 and 2, SECONDS on DAYS 30 and 60}
        int[][] cases = {{0, 20, 20, 20, 600, 600}, {1, 10, 20, 20, 600, 600}, {29, 10, 20, 20, 600, 600},
            {30, 10, 20, 20, 600, 600}, {31, 10, 10, 20, 300, 600}, {59, 10, 10, 20, 300, 600},
            {60, 10, 10, 20, 300, 600}};
        for (int[] c : cases) {
            Rollover x = twoPlans();
            x.join(0, 0);
            Houses.passTo(x, c[0]);
            dueOf("on " + c[0], 0, () -> x.change(0, 1));
            Houses.passTo(x, 61);
            for (int k = 0; k < 3; k++) {
                int cycle = k;
                dueOf("on " + c[0], c[1 + k], () -> x.ofCycle(0, cycle, 0));
            }
            dueOf("on " + c[0], c[4], () -> x.ofDay(0, 30, 1));
            dueOf("on " + c[0], c[5], () -> x.ofDay(0, 60, 1));
            dueOf("on " + c[0], 1, () -> x.ofDay(0, c[0], 0));
            if (c[0] > 0) dueOf("on " + c[0], 0, () -> x.ofDay(0, c[0] - 1, 0));
        }
    }

    /** "that of a DAY is the one that was told last of those that hold from that DAY or an earlier one on" */
    private static void changeToldTwice() {
        promise = 6;
        Rollover x = twoPlans();
        x.join(0, 0);
        due(0, () -> x.change(0, 1));
        due(1, () -> x.change(0, 0));
        due(0, () -> x.change(0, 0));
        due(300, () -> x.ofDay(0, 0, 1));
        x.pass(1);
        due(0, () -> x.change(0, 1));
        x.pass(1);
        due(1, () -> x.change(0, 0));
        x.pass(1);
        due("0 1 0 0", () -> x.ofDay(0, 0, 0) + " " + x.ofDay(0, 1, 0) + " " + x.ofDay(0, 2, 0) + " "
                + x.ofDay(0, 3, 0));
        // Whoever JOINED later, as of an earlier DAY, has its own PLAN from then on.
        due(1, () -> x.join(1, 3));
        due(1, () -> x.ofDay(1, 0, 0));
        due(1, () -> x.change(1, 0));
        due(1, () -> x.ofDay(1, 2, 0));
        due(0, () -> x.ofDay(1, 3, 0));
    }

    /** The same of a DAY ahead of TODAY. */
    private static void planOfADayAheadOfToday() {
        promise = 18;
        Rollover x = twoPlans();
        x.join(0, 0);
        x.pass(15);
        for (int k = 0; k < 12; k++) {
            int cycle = k;
            due(10, () -> x.ofCycle(0, cycle, 0));
        }
        x.change(0, 1);
        due(10, () -> x.ofCycle(0, 0, 0));
        for (int k = 1; k < 12; k++) {
            int cycle = k;
            due(20, () -> x.ofCycle(0, cycle, 0));
            for (int w = 1; w < 8; w++) {
                int what = w;
                due(0, () -> x.ofCycle(0, cycle, what));
            }
        }
        x.change(0, 0);
        due(10, () -> x.ofCycle(0, 1, 0));
        due(10, () -> x.ofCycle(0, 11, 0));
    }

    /** "All by the PLAN of the DAY of the CALL." */
    private static void planOfTheCallsDay() {
        promise = 10;
        Rollover x = new Rollover();
        x.plan(0, 0, 1);
        x.units(0, 0, 10, 10, true);
        x.steps(0, 9999, 1, 3);
        x.plan(0, 0, 2);
        x.units(1, 0, 50, 50, false);
        x.steps(1, 9999, 2, 5);
        x.join(0, 0);
        x.pass(1);
        x.change(0, 1);
        x.call(0, 1, 1439, 0, 0, 70);
        x.call(0, 0, 0, 0, 0, 70);
        x.call(0, 1, 1000, 0, 0, 70);
        x.call(0, 0, 1000, 0, 0, 70);
        due("call 0 on day 0: free", () -> x.line(0));
        due("call 1 on day 1: 0+0+100", () -> x.line(1));
        due("call 2 on day 0: 0+0+70", () -> x.line(2));
        due(300, () -> x.ofTicket(2, 9));
        due(400, () -> x.ofTicket(1, 9));
        due(100, () -> x.ofTicket(3, 9));
    }

    /** "a CHILD has no CHILDREN" */
    private static void noChildOfAChild() {
        promise = 8;
        Rollover x = Houses.of(0, 0, 0, 4);
        due(NONE, () -> x.child(1, 0, 5));
        refused(STATE, x, () -> x.child(2, 1, 5));
        refused(STATE, x, () -> x.child(0, 2, 5));
        // The other way round, both apply.
        refused(STATE, x, () -> x.child(0, 1, 5));
        // To be a CHILD twice, or of another one, is no matter.
        due(0, () -> x.child(1, 0, 6));
        due(0, () -> x.child(1, 2, 6));
        due(NONE, () -> x.child(0, 2, 7));
        due(2, () -> x.child(0, 3, 7));
        // 2 still has 1, so that it is of nobody alone.
        refused(STATE, x, () -> x.child(2, 3, 0));
        due(NONE, () -> x.child(2, NONE, 0));
        due(2, () -> x.child(1, NONE, 0));
        due(NONE, () -> x.child(2, 3, 0));
        due(true, () -> x.isSound());
        // Also if the CHILD is the first or the last CUSTOMER.
        Rollover y = Houses.of(0, 0, 0, 4);
        due(NONE, () -> y.child(0, 1, 5));
        refused(STATE, y, () -> y.child(1, 2, 5));
        due(1, () -> y.child(0, NONE, 5));
        due(NONE, () -> y.child(3, 1, 5));
        refused(STATE, y, () -> y.child(1, 2, 5));
        due(1, () -> y.child(3, NONE, 5));
        due(NONE, () -> y.child(1, 2, 5));
    }

    /** "parent: of which one; NONE: of nobody" */
    private static void ofNobodyAgain() {
        promise = 8;
        Rollover x = Houses.bare();
        x.addOn(0, 0, 0, 600, 1, 0);
        x.call(1, 0, 1, 0, 0, 60);
        x.child(1, 0, 60);
        due("call 1 on day 0: 0+60+0", () -> x.line(1));
        due(0, () -> x.child(1, NONE, 60));
        due("call 1 on day 0: 0+0+60", () -> x.line(1));
        due(NONE, () -> x.child(1, NONE, 9999));
        due(600, () -> x.ofDay(0, 0, 1));
        // The parent may be a CHILD itself now.
        due(NONE, () -> x.child(0, 1, 0));
        due(true, () -> x.isSound());
    }

    /** Two CUSTOMERS; 1 is a CHILD of 0, who has 9000 SECONDS. */
    private static Rollover family(int limit) {
        Rollover x = Houses.bare();
        x.addOn(0, 0, 0, 9000, 90, 0);
        x.child(1, 0, limit);
        return x;
    }

    /** "out of those of its parent, as far as LIMIT of that CYCLE goes" */
    private static void limitJustReached() {
        promise = 8;
        // {LIMIT, parent's of two CALLS of 60 SECONDS each, CHARGE of the second}
        int[][] cases = {{0, 0, 0, 1000}, {1, 1, 0, 1000}, {59, 59, 0, 1000}, {60, 60, 0, 1000}, {61, 60, 1, 1000},
            {119, 60, 59, 100}, {120, 60, 60, 0}, {121, 60, 60, 0}, {9999, 60, 60, 0}};
        for (int[] c : cases) {
            Rollover x = family(c[0]);
            x.call(1, 0, 1, 0, 0, 60);
            x.call(1, 0, 2, 0, 0, 60);
            dueOf("LIMIT " + c[0], c[1], () -> x.ofTicket(1, 8));
            dueOf("LIMIT " + c[0], c[2], () -> x.ofTicket(2, 8));
            dueOf("LIMIT " + c[0], c[3], () -> x.ofTicket(2, 9));
            dueOf("LIMIT " + c[0], c[1] + c[2], () -> x.ofCycle(1, 0, 4));
            dueOf("LIMIT " + c[0], 120 - c[1] - c[2], () -> x.ofCycle(1, 0, 2));
            dueOf("LIMIT " + c[0], 9000 - c[1] - c[2], () -> x.ofDay(0, 0, 1));
            dueOf("LIMIT " + c[0], true, () -> x.isSound());
        }
        // As many as there are can be fewer than LIMIT.
        Rollover x = family(9999);
        x.call(1, 0, 1, 0, 0, 9999);
        due("call 1 on day 0: 0+9000+1002", () -> x.line(1));
    }

    /** "a LIMIT (0 to 9999 seconds in each CYCLE)" */
    private static void limitOfEachCycle() {
        promise = 8;
        Rollover x = family(90);
        x.pass(60);
        for (int day : new int[] {0, 29, 30, 59, 60}) x.call(1, 60 - day, 1, 0, 0, 60);
        int[] parents = {60, 30, 60, 30, 60};
        for (int k = 0; k < 5; k++) {
            int ticket = 1 + k;
            due(parents[k], () -> x.ofTicket(ticket, 8));
        }
        due(90, () -> x.ofCycle(1, 0, 4));
        due(90, () -> x.ofCycle(1, 1, 4));
        due(60, () -> x.ofCycle(1, 2, 4));
        // What is VOIDED leaves its part of LIMIT to the later ones.
        x.undo(1);
        due(60, () -> x.ofTicket(2, 8));
        due(true, () -> x.isSound());
    }

    /** "(This holds for all DAYS.)" */
    private static void limitHoldsForAllDays() {
        promise = 8;
        Rollover x = family(60);
        x.pass(40);
        x.call(1, 40, 1, 0, 0, 120);
        x.call(1, 40, 2, 0, 0, 120);
        due("call 1 on day 0: 0+60+60", () -> x.line(1));
        due("call 2 on day 0: 0+0+120", () -> x.line(2));
        due(0, () -> x.child(1, 0, 180));
        due("call 1 on day 0: 0+120+0", () -> x.line(1));
        due("call 2 on day 0: 0+60+60", () -> x.line(2));
        due(0, () -> x.child(1, 0, 0));
        due("call 1 on day 0: 0+0+120", () -> x.line(1));
        due(9000, () -> x.ofDay(0, 40, 1));
    }

    /** "COUNTED SECONDS are taken out of own BUCKETS; then .. its parent's .. what is left is CHARGED" */
    private static void ownFirstThenParents() {
        promise = 10;
        Rollover x = family(30);
        x.addOn(1, 0, 0, 20, 1, 0);
        x.call(1, 0, 1, 0, 0, 18);
        x.call(1, 0, 2, 0, 0, 18);
        x.call(1, 0, 3, 0, 0, 18);
        due("call 2 on day 0: 18+0+0", () -> x.line(2));
        due("call 3 on day 0: 2+16+0", () -> x.line(3));
        due("call 4 on day 0: 0+14+4", () -> x.line(4));
        due(100, () -> x.ofTicket(4, 9));
        // A parent's own CALLS take nothing of its CHILD, and what a CHILD gives is its own alone.
        Rollover y = family(9999);
        y.gift(1, 0, 0, 1, 50);
        y.undo(0);
        y.addOn(1, 0, 0, 600, 1, 0);
        y.call(0, 0, 5, 0, 0, 60);
        due("gift 1 on day 0: 50", () -> y.line(1));
        due("call 3 on day 0: 50+0+10", () -> y.line(3));
        Rollover z = family(9999);
        z.gift(1, 0, 0, 1, 50);
        due("gift 1 on day 0: 0", () -> z.line(1));
    }

    /** Each CHILD has a LIMIT of its own; the SECONDS are those of one parent. */
    private static void severalChildrenOfOne() {
        promise = 8;
        Rollover x = Houses.bare();
        x.join(0, 0);
        x.addOn(0, 0, 0, 100, 1, 0);
        x.child(1, 0, 60);
        x.child(2, 0, 90);
        x.call(2, 0, 3, 0, 0, 90);
        x.call(1, 0, 2, 0, 0, 90);
        due("call 2 on day 0: 0+60+30", () -> x.line(2));
        due("call 1 on day 0: 0+40+50", () -> x.line(1));
        due(0, () -> x.ofDay(0, 0, 1));
    }

    /** "As a CUSTOMER has JOINED .. it gets a BUCKET": nobody, a parent neither, has one ahead of that. */
    private static void parentAheadOfItsJoining() {
        promise = 8;
        Rollover x = new Rollover();
        x.plan(0, 900, 1);
        x.plan(0, 0, 1);
        x.pass(12);
        x.join(0, 2);
        x.join(1, 12);
        x.child(1, 0, 9999);
        x.call(1, 3, 1439, 0, 0, 60);
        x.call(1, 2, 0, 0, 0, 60);
        due("call 0 on day 9: 0+0+60", () -> x.line(0));
        due("call 1 on day 10: 0+60+0", () -> x.line(1));
        due(540, () -> x.ofDay(0, 10, 1));
    }

    /** "at a DAY (not ahead of its JOINING, not behind TODAY)" */
    private static void ticketsOnTheDayOfTheJoining() {
        Rollover x = Houses.three();
        promise = 10;
        due(0, () -> x.call(2, 1, 0, 0, 0, 60));
        refused(ARGUMENT, x, () -> x.call(2, 2, 1439, 0, 0, 60));
        due(1, () -> x.call(2, 0, 1439, 0, 0, 60));
        refused(ARGUMENT, x, () -> x.call(2, -1, 0, 0, 0, 60));
        promise = 12;
        due(2, () -> x.addOn(2, 1, 0, 60, 1, 1));
        refused(ARGUMENT, x, () -> x.addOn(2, 2, 1439, 60, 1, 1));
        refused(ARGUMENT, x, () -> x.addOn(2, -1, 0, 60, 1, 1));
        promise = 11;
        due(3, () -> x.gift(2, 0, 1, 0, 60));
        refused(ARGUMENT, x, () -> x.gift(2, 0, 2, 1439, 60));
        due(4, () -> x.gift(0, 2, 1, 0, 60));
        refused(ARGUMENT, x, () -> x.gift(0, 2, 2, 1439, 60));
        refused(ARGUMENT, x, () -> x.gift(0, 2, -1, 0, 60));
        due(5, () -> x.gift(0, 1, 10, 0, 60));
        refused(ARGUMENT, x, () -> x.gift(0, 1, 11, 0, 60));
    }

    /** "A CALL with the same CUSTOMER, DAY, MINUTE and NUMBER as one that came" */
    private static void doubledInWhat() {
        promise = 10;
        Rollover x = Houses.bare();
        x.pass(5);
        x.gift(0, 1, 2, 700, 60);
        x.addOn(0, 2, 700, 60, 1, 0);
        due(2, () -> x.call(0, 2, 700, 0, 0, 60));
        // Another ZONE or other SECONDS make no other CALL of it.
        due(NONE, () -> x.call(0, 2, 700, 0, 3, 60));
        due(NONE, () -> x.call(0, 2, 700, 0, 0, 1));
        due(NONE, () -> x.call(0, 2, 700, 0, 0, 60));
        due(3, () -> x.call(1, 2, 700, 0, 0, 60));
        due(4, () -> x.call(0, 3, 700, 0, 0, 60));
        due(5, () -> x.call(0, 2, 701, 0, 0, 60));
        due(6, () -> x.call(0, 2, 700, 4, 0, 60));
        due(3, () -> x.house(5));
        due(7, () -> x.house(3));
        due(60, () -> x.ofTicket(2, 4));
        // GIFTS and ADD-ONS are never DOUBLED.
        due(7, () -> x.gift(0, 1, 2, 700, 60));
        due(8, () -> x.addOn(0, 2, 700, 60, 1, 0));
        due(3, () -> x.house(5));
        // The same so many DAYS ago, a DAY later, is another DAY.
        x.pass(1);
        due(9, () -> x.call(0, 2, 700, 0, 0, 60));
        due(NONE, () -> x.call(0, 3, 700, 0, 0, 60));
        due(4, () -> x.house(5));
    }

    /** "as one that came (VOIDED or not) is DOUBLED: it is counted, and is no TICKET" */
    private static void doubledOfWhatWasVoidedOrCorrected() {
        promise = 10;
        Rollover x = Houses.bare();
        x.call(0, 0, 0, 0, 0, 6);
        x.call(0, 0, 1, 0, 0, 6);
        x.correct(0, 12);
        x.undo(1);
        due(NONE, () -> x.call(0, 0, 0, 0, 0, 6));
        due(NONE, () -> x.call(0, 0, 0, 0, 0, 12));
        due(NONE, () -> x.call(0, 0, 1, 0, 0, 6));
        due(3, () -> x.house(5));
        due(2, () -> x.house(3));
        due(200, () -> x.ofCycle(0, 0, 1));
        due(1, () -> x.ofCycle(0, 0, 5));
    }

    /** "TICKETS are always rated IN TIME: by DAY, then MINUTE, then number." */
    private static void byDayThenMinuteThenNumber() {
        promise = 10;
        Rollover x = Houses.bare();
        x.pass(2);
        x.addOn(0, 1, 700, 18, 9, 0);
        x.call(0, 0, 699, 0, 0, 6);
        x.call(0, 1, 701, 0, 0, 6);
        x.call(0, 1, 700, 0, 0, 6);
        x.call(0, 1, 700, 1, 0, 6);
        x.call(0, 1, 699, 0, 0, 6);
        due("call 1 on day 2: 0+0+6", () -> x.line(1));
        due("call 2 on day 1: 6+0+0", () -> x.line(2));
        due("call 3 on day 1: 6+0+0", () -> x.line(3));
        due("call 4 on day 1: 6+0+0", () -> x.line(4));
        due("call 5 on day 1: 0+0+6", () -> x.line(5));
        // Of one MINUTE, what came first is rated first: here a CALL is ahead of the ADD-ON.
        Rollover y = Houses.bare();
        y.call(0, 0, 700, 0, 0, 6);
        y.addOn(0, 0, 700, 6, 1, 0);
        y.call(0, 0, 700, 1, 0, 6);
        y.call(0, 0, 700, 2, 0, 6);
        due("call 0 on day 0: 0+0+6", () -> y.line(0));
        due("call 2 on day 0: 6+0+0", () -> y.line(2));
        due("call 3 on day 0: 0+0+6", () -> y.line(3));
    }

    /** "10 its place IN TIME (from 0 on, VOIDED ones too)" */
    private static void placesInTime() {
        promise = 19;
        Rollover x = Houses.bare();
        x.pass(1);
        x.call(0, 0, 5, 0, 0, 6);
        due(0, () -> x.ofTicket(0, 10));
        x.call(1, 0, 5, 0, 0, 6);
        x.addOn(0, 0, 4, 6, 1, 0);
        x.gift(0, 1, 1, 1439, 6);
        x.call(0, 0, 6, 0, 0, 6);
        x.call(0, 0, 5, 1, 0, 6);
        int[] places = {2, 3, 1, 0, 5, 4};
        for (int k = 0; k < 6; k++) {
            int ticket = k;
            due(places[k], () -> x.ofTicket(ticket, 10));
        }
        x.undo(2);
        x.undo(3);
        x.undo(5);
        for (int k = 0; k < 6; k++) {
            int ticket = k;
            due(places[k], () -> x.ofTicket(ticket, 10));
        }
    }

    /** "any TICKET can be VOIDED: it is as if it was not there (but keeps its number)" */
    private static void voidedAsIfNotThere() {
        promise = 14;
        Rollover x = Houses.bare();
        x.addOn(0, 0, 0, 60, 1, 9);
        x.gift(0, 1, 0, 1, 30);
        x.call(0, 0, 2, 0, 0, 60);
        x.call(1, 0, 2, 0, 0, 60);
        due("call 2 on day 0: 30+0+30", () -> x.line(2));
        due("call 3 on day 0: 30+0+30", () -> x.line(3));
        due(0, () -> x.undo(1));
        due("call 2 on day 0: 60+0+0", () -> x.line(2));
        due("call 3 on day 0: 0+0+60", () -> x.line(3));
        due(1, () -> x.undo(0));
        due("call 2 on day 0: 0+0+60", () -> x.line(2));
        due(-10, () -> x.undo(3));
        due("add-on 0 on day 0: 0 void", () -> x.line(0));
        due("gift 1 on day 0: 0 void", () -> x.line(1));
        due("call 3 on day 0: 0+0+0 void", () -> x.line(3));
        // What was told of it is still told; what it was rated is 0.
        int[] want = {0, 1, 0, 2, 60, 1, 0, 0, 0, 0, 3};
        for (int k = 0; k <= 10; k++) {
            int what = k;
            due(want[k], () -> x.ofTicket(3, what));
        }
        for (int k = 0; k <= 7; k++) {
            int what = k;
            due(0, () -> x.ofCycle(1, 0, what));
        }
        refused(STATE, x, () -> x.undo(3));
        due(4, () -> x.call(0, 0, 9, 9, 0, 6));
        // Of SECONDS that were left as well there are none any more: own ones, a parent's, and to give.
        Rollover y = Houses.bare();
        y.child(1, 0, 9999);
        y.addOn(0, 0, 0, 600, 1, 9);
        y.call(0, 0, 1, 0, 0, 60);
        y.call(1, 0, 1, 0, 0, 60);
        y.gift(0, 1, 0, 2, 60);
        due(420, () -> y.ofDay(0, 0, 1));
        y.undo(0);
        due("call 1 on day 0: 0+0+60", () -> y.line(1));
        due("call 2 on day 0: 0+0+60", () -> y.line(2));
        due("gift 3 on day 0: 0", () -> y.line(3));
        due(0, () -> y.ofDay(0, 0, 1) + y.ofDay(0, 0, 2) + y.ofDay(1, 0, 1));
    }
}
