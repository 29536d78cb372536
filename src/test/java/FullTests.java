/** What is full, and one short of full; what is empty; the last of 512 calls. */
public final class FullTests extends Checks {
    public static void main(String[] args) {
        fivePlans();
        eightCustomers();
        fortyEightTickets();
        fullIsFullForAllKinds();
        doubledWhereThereIsNoRoom();
        voidedOnesKeepTheirRoom();
        twentyPortings();
        mostBuckets();
        withoutPlans();
        withoutCustomers();
        withoutTickets();
        withoutSeconds();
        emptyDigest();
        the512thCall();
        end();
    }

    /** "Throws IllegalStateException if there are 5" */
    private static void fivePlans() {
        promise = 2;
        Rollover x = new Rollover();
        for (int k = 0; k < 5; k++) {
            int plan = k;
            due(k, () -> x.house(1));
            refused(INDEX, x, () -> x.units(plan, 0, 1, 6, false));
            refused(INDEX, x, () -> x.steps(plan, 0, 0, 0));
            refused(INDEX, x, () -> x.join(plan, 0));
            due(k, () -> x.plan(50 - plan, 10 * plan, plan));
            due(60, () -> x.units(plan, 0, 1, 6, false));
            due(0, () -> x.steps(plan, 0, 0, 0));
        }
        refused(STATE, x, () -> x.plan(0, 0, 0));
        refused(STATE, x, () -> x.plan(99, 9999, 99));
        due(5, () -> x.house(1));
        // The last one is a PLAN like all others.
        due(0, () -> x.join(4, 0));
        due(46, () -> x.ofCycle(0, 0, 0));
        due(40, () -> x.ofDay(0, 0, 1));
        due(4, () -> x.best(0, 0, false));
        refused(INDEX, x, () -> x.join(5, 0));
        refused(INDEX, x, () -> x.change(0, 5));
    }

    /** "Throws IllegalStateException if there are 8" */
    private static void eightCustomers() {
        promise = 5;
        Rollover x = new Rollover();
        x.plan(3, 30, 1);
        x.pass(31);
        for (int k = 0; k < 8; k++) {
            int customer = k;
            refused(INDEX, x, () -> x.suspect(customer));
            due(k, () -> x.join(0, 4 * customer));
            due(0, () -> x.suspect(customer));
        }
        refused(STATE, x, () -> x.join(0, 0));
        refused(STATE, x, () -> x.join(0, 31));
        refused(INDEX, x, () -> x.suspect(8));
        due(8, () -> x.house(2));
        // All from CYCLE 0 on, but the first one (DAY 31).
        due(3 + 7 * 6, () -> x.house(6));
        due(NONE, () -> x.child(7, 6, 5));
        due(true, () -> x.isSound());
        due(0, () -> x.gift(7, 0, 0, 0, 1));
        due(6, () -> x.child(7, NONE, 5));
    }

    private static Rollover withTickets(int many) {
        Rollover x = Houses.bare();
        x.pass(3);
        for (int k = 0; k < many; k++) x.call(0, 1, 20 * k, k % 16, 0, 6);
        return x;
    }

    /** "TICKETS: at most 48, numbered from 0 as they come" */
    private static void fortyEightTickets() {
        promise = 10;
        Rollover x = Houses.bare();
        for (int k = 0; k < 48; k++) {
            int ticket = k;
            due(k, () -> x.house(3));
            due(INDEX, () -> x.line(ticket));
            due(k, () -> x.call(0, 0, 29 * ticket, 0, 0, 6));
        }
        due("call 47 on day 0: 0+0+6", () -> x.line(47));
        due(47, () -> x.ofTicket(47, 10));
        due(48, () -> x.ofCycle(0, 0, 5));
        due(48, () -> x.ofCycle(0, 0, 0));
        refused(STATE, x, () -> x.call(0, 0, 1, 1, 0, 6));
        due(48, () -> x.house(3));
        due(INDEX, () -> x.line(48));
        refused(INDEX, x, () -> x.ofTicket(48, 0));
        refused(INDEX, x, () -> x.correct(48, 1));
        refused(INDEX, x, () -> x.undo(48));
        // Full, but the last one can still be CORRECTED and VOIDED.
        due(1, () -> x.correct(47, 7));
        due(-2, () -> x.undo(47));
    }

    /** All three kinds have the same room. */
    private static void fullIsFullForAllKinds() {
        promise = 10;
        due(47, () -> withTickets(47).call(1, 0, 0, 0, 0, 1));
        due(STATE, () -> withTickets(48).call(1, 0, 0, 0, 0, 1));
        promise = 11;
        due(47, () -> withTickets(47).gift(1, 0, 0, 0, 1));
        due(STATE, () -> withTickets(48).gift(1, 0, 0, 0, 1));
        promise = 12;
        due(47, () -> withTickets(47).addOn(1, 0, 0, 1, 1, 0));
        due(STATE, () -> withTickets(48).addOn(1, 0, 0, 1, 1, 0));
        Rollover gifts = Houses.bare();
        for (int k = 0; k < 48; k++) gifts.gift(0, 1, 0, 0, 1);
        refused(STATE, gifts, () -> gifts.call(0, 0, 0, 0, 0, 1));
        refused(STATE, gifts, () -> gifts.addOn(0, 0, 0, 1, 1, 0));
        Rollover addOns = Houses.bare();
        for (int k = 0; k < 48; k++) addOns.addOn(0, 0, 0, 1, 1, 0);
        refused(STATE, addOns, () -> addOns.gift(0, 1, 0, 0, 1));
        refused(STATE, addOns, () -> addOns.addOn(0, 0, 0, 1, 1, 0));
    }

    /** "if there are 48 TICKETS (also if it is DOUBLED)" */
    private static void doubledWhereThereIsNoRoom() {
        promise = 10;
        Rollover short1 = withTickets(47);
        due(NONE, () -> short1.call(0, 1, 0, 0, 0, 6));
        due(NONE, () -> short1.call(0, 1, 20, 1, 3, 9));
        due(2, () -> short1.house(5));
        // A DOUBLED one takes no room.
        due(47, () -> short1.house(3));
        due(47, () -> short1.call(0, 0, 0, 0, 0, 6));
        refused(STATE, short1, () -> short1.call(0, 0, 0, 0, 0, 6));
        refused(STATE, short1, () -> short1.call(0, 1, 0, 0, 0, 6));
        due(2, () -> short1.house(5));
        due(48, () -> short1.house(3));
        // What can't be at all is refused for that.
        refused(ARGUMENT, short1, () -> short1.call(0, 1, 0, 0, 0, 0));
        refused(INDEX, short1, () -> short1.call(2, 1, 0, 0, 0, 6));
    }

    /** "it is as if it was not there (but keeps its number)" */
    private static void voidedOnesKeepTheirRoom() {
        promise = 14;
        Rollover x = withTickets(48);
        for (int k = 0; k < 48; k++) {
            int ticket = k;
            due(-1, () -> x.undo(ticket));
        }
        due(48, () -> x.house(3));
        due(48, () -> x.house(4));
        due(0, () -> x.house(6));
        refused(STATE, x, () -> x.call(0, 0, 0, 0, 0, 1));
        refused(STATE, x, () -> x.gift(0, 1, 0, 0, 1));
        refused(STATE, x, () -> x.addOn(0, 0, 0, 1, 1, 0));
        due("call 47 on day 2: 0+0+0 void", () -> x.line(47));
    }

    /** "Throws IllegalStateException if there were 20 PORTINGS" */
    private static void twentyPortings() {
        promise = 15;
        Rollover x = Houses.bare();
        x.pass(1);
        for (int k = 0; k < 19; k++) x.port(1, k % 4, 0);
        due(19, () -> x.house(7));
        due(3, () -> x.port(15, 0, 1));
        due(20, () -> x.house(7));
        due(0, () -> x.carrier(15, 0));
        due(2, () -> x.carrier(1, 1));
        due(1, () -> x.carrier(1, 0));
        refused(STATE, x, () -> x.port(15, 1, 0));
        // Also of a NUMBER that was never PORTED, and to where it belongs already.
        refused(STATE, x, () -> x.port(3, 3, 0));
        refused(INDEX, x, () -> x.port(16, 0, 0));
        refused(ARGUMENT, x, () -> x.port(3, 0, 2));
        due(20, () -> x.house(7));
    }

    /** As many BUCKETS as one CUSTOMER can get: 12 GRANTS and 48 others, all of which are still there. */
    private static void mostBuckets() {
        promise = 17;
        Rollover x = Houses.of(0, 1, 1, 2);
        x.units(0, 3, 1, 6, false);
        Houses.passTo(x, 359);
        for (int k = 0; k < 24; k++) x.addOn(0, 0, 1439, 100, 90, 1);
        for (int k = 0; k < 24; k++) x.gift(0, 1, 0, 1439, 5);
        due(4 + 2400 - 120, () -> x.ofDay(0, 359, 1));
        // Three GRANTS lapse ahead of the ADD-ONS, of which one is given away whole; one lapses behind them.
        due(23 + 1, () -> x.ofDay(0, 359, 2));
        due(4 + 120, () -> x.ofDay(1, 359, 1));
        due(28, () -> x.ofDay(1, 359, 2));
        due(121, () -> x.ofDay(1, 359, 3));
        due(24, () -> x.ofCycle(0, 11, 7));
        // All 48 of one CUSTOMER: what a CALL would cost takes them all, and leaves them as they were.
        Rollover y = Houses.of(0, 1, 1, 1);
        y.units(0, 3, 1, 6, false);
        Houses.passTo(y, 359);
        for (int k = 0; k < 48; k++) y.addOn(0, 0, k, 6, 90, 1);
        due(0, () -> y.wouldCost(0, 1439, 0, 0, 4 + 48 * 6 - 3));
        due(100, () -> y.wouldCost(0, 1439, 0, 0, 4 + 48 * 6 + 3));
        due(100 * (1667 - 48), () -> y.wouldCost(0, 1439, 0, 0, 9999));
        due(52, () -> y.ofDay(0, 359, 2));
        due(true, () -> y.isSound());
    }

    /** Without PLANS nobody can JOIN. */
    private static void withoutPlans() {
        promise = 1;
        Rollover x = new Rollover();
        refused(INDEX, x, () -> x.units(0, 0, 60, 60, false));
        refused(INDEX, x, () -> x.units(0, 4, 0, 0, false));
        refused(INDEX, x, () -> x.steps(0, 0, 0, 0));
        refused(INDEX, x, () -> x.steps(0, -1, -1, -1));
        refused(INDEX, x, () -> x.join(0, 0));
        refused(INDEX, x, () -> x.join(0, -1));
        refused(INDEX, x, () -> x.join(NONE, 0));
    }

    /** Without CUSTOMERS there is nobody to call, and nobody to be asked of. */
    private static void withoutCustomers() {
        promise = 1;
        Rollover x = new Rollover();
        x.plan(1, 2, 3);
        refused(INDEX, x, () -> x.change(0, 0));
        refused(INDEX, x, () -> x.circle(0, -1));
        refused(INDEX, x, () -> x.child(0, NONE, 0));
        refused(INDEX, x, () -> x.child(0, 0, -1));
        refused(INDEX, x, () -> x.call(0, -1, 0, 0, 0, 1));
        refused(INDEX, x, () -> x.gift(0, 0, 0, 0, 1));
        refused(INDEX, x, () -> x.addOn(0, 0, -1, 1, 1, 0));
        refused(INDEX, x, () -> x.ofDay(0, 0, 0));
        refused(INDEX, x, () -> x.ofCycle(0, 0, 8));
        refused(INDEX, x, () -> x.suspect(0));
        refused(INDEX, x, () -> x.best(0, 12, true));
        refused(INDEX, x, () -> x.wouldCost(0, 0, 0, 0, 0));
        due(0, () -> x.house(2) + x.house(6) + x.house(9));
        due(true, () -> x.isSound());
        due(120, () -> x.pass(120));
        due(3, () -> x.port(3, 0, 120));
        due(-7, () -> x.incoming(1, 7));
        due(true, () -> x.isSound());
    }

    private static void withoutTickets() {
        promise = 1;
        Rollover x = Houses.of(4, 60, 2, 1);
        refused(INDEX, x, () -> x.correct(0, 1));
        refused(INDEX, x, () -> x.correct(0, 0));
        refused(INDEX, x, () -> x.undo(0));
        refused(INDEX, x, () -> x.ofTicket(0, 0));
        refused(INDEX, x, () -> x.ofTicket(0, 11));
        refused(INDEX, x, () -> x.line(0));
        due(4, () -> x.ofCycle(0, 0, 0));
        for (int k = 1; k <= 7; k++) {
            int what = k;
            due(0, () -> x.ofCycle(0, 0, what));
        }
        for (int k = 1; k <= 3; k++) {
            int carrier = k;
            due(0, () -> x.settlement(carrier));
        }
        due(0, () -> x.suspect(0));
        due(4, () -> x.best(0, 0, true));
        due(200, () -> x.wouldCost(0, 0, 0, 0, 61));
        due(true, () -> x.isSound());
    }

    /** Without a BUCKET nothing is taken and nothing can be given. */
    private static void withoutSeconds() {
        promise = 11;
        Rollover x = Houses.bare();
        for (int k = 1; k <= 3; k++) {
            int what = k;
            due(0, () -> x.ofDay(0, 0, what));
        }
        x.gift(0, 1, 0, 0, 9999);
        due("gift 0 on day 0: 0", () -> x.line(0));
        due(0, () -> x.ofTicket(0, 7));
        due(0, () -> x.ofDay(1, 0, 1) + x.ofDay(1, 0, 2));
        x.child(1, 0, 9999);
        x.call(1, 0, 1, 0, 0, 60);
        due("call 1 on day 0: 0+0+60", () -> x.line(1));
    }

    /** Of a house without anything there are ten numbers, 16 CARRIERS, three SETTLEMENTS and a 1. */
    private static void emptyDigest() {
        promise = 28;
        long d = 8111;
        for (int k = 0; k < 10; k++) d = d * 31;
        for (int number = 0; number < 16; number++) d = d * 31 + number % 4;
        long want = d * 31 * 31 * 31 * 31 + 1;
        due(want, () -> new Rollover().digest());
    }

    /** "An object is used for at most 512 calls after it has been made" */
    private static void the512thCall() {
        promise = 28;
        Rollover twin = withTickets(48);
        long want = twin.digest();
        Rollover x = withTickets(48);
        for (int k = 1 + 2 + 2 + 48 + 1; k < 512; k++) {
            int asked = k;
            if (k % 3 == 0) due(6, () -> x.ofTicket(asked % 48, 6));
            if (k % 3 == 1) due(600, () -> x.wouldCost(0, 0, 0, 0, 36));
            if (k % 3 == 2) due(48, () -> x.best(0, 0, true));
        }
        due(want, () -> x.digest());
    }
}
