/** Houses that several tests begin with, and pictures of what a house answers. */
final class Houses {
    private Houses() {
    }

    /** TODAY is 40; PLAN 0 (fee 10, grant 300, price 5), CUSTOMERS 0 and 1 from DAY 30, 2 from DAY 39 on. */
    static Rollover three() {
        Rollover x = new Rollover();
        x.plan(10, 300, 5);
        x.pass(40);
        x.join(0, 10);
        x.join(0, 10);
        x.join(0, 1);
        return x;
    }

    /** One PLAN (FIRST 60, UNIT 60), and CUSTOMERS who JOINED on DAY 0. */
    static Rollover of(int fee, int grant, int price, int customers) {
        Rollover x = new Rollover();
        x.plan(fee, grant, price);
        for (int c = 0; c < customers; c++) x.join(0, 0);
        return x;
    }

    /** Two CUSTOMERS of DAY 0 without GRANT: each 6 SECONDS are a UNIT of PRICE 1. */
    static Rollover bare() {
        Rollover x = of(0, 0, 1, 2);
        x.units(0, 0, 6, 6, false);
        return x;
    }

    static void passTo(Rollover x, int day) {
        while (x.house(0) < day) x.pass(Math.min(120, day - x.house(0)));
    }

    /**
     * TODAY is 65; whatever can be told shows in its answers: two PLANS, four CUSTOMERS (from DAYS 0, 30, 45 and 50
     * on, 2 a CHILD of 0), eight TICKETS of all KINDS (0 and 7 CALLS, 5 VOIDED), a DOUBLED one, PORTINGS, INCOMING.
     */
    static Rollover rich() {
        Rollover x = new Rollover();
        x.plan(10, 300, 5);
        x.units(0, 1, 30, 20, true);
        x.steps(0, 100, 3, 40);
        x.plan(20, 600, 7);
        x.steps(1, 50, 2, 0);
        x.pass(65);
        x.join(0, 65);
        x.join(1, 35);
        x.join(0, 20);
        x.join(1, 15);
        x.child(2, 0, 50);
        x.circle(1, 1 << 9);
        x.call(0, 5, 700, 1, 1, 500);
        x.call(1, 5, 700, 2, 0, 1500);
        x.call(2, 5, 700, 3, 3, 700);
        x.gift(1, 3, 20 - 6, 50, 40);
        x.addOn(3, 10, 60, 70, 12, 8);
        x.call(3, 9, 800, 7, 2, 60);
        x.call(1, 4, 700, 9, 0, 100);
        x.call(3, 3, 400, 6, 2, 1300);
        x.undo(5);
        x.call(3, 9, 800, 7, 0, 1);
        x.port(6, 3, 10);
        x.incoming(2, 12);
        return x;
    }

    private static void add(StringBuilder all, Checks.Question q) {
        all.append(Checks.answer(q)).append(' ');
    }

    /** What this house answers to some 350 questions; not many more can be asked then (of 512 calls). */
    static String picture(Rollover x) {
        StringBuilder all = new StringBuilder();
        add(all, x::digest);
        add(all, x::isSound);
        int today = x.house(0);
        int customers = x.house(2);
        int tickets = x.house(3);
        for (int k = 1; k < 10; k++) {
            int what = k;
            add(all, () -> x.house(what));
        }
        for (int t = 0; t < tickets; t++) {
            if (t < 4 || t >= tickets - 6) pictureOfTicket(all, x, t);
        }
        for (int c = 0; c < customers; c++) pictureOfCustomer(all, x, c, today);
        for (int n = 0; n < 16; n++) {
            int number = n;
            add(all, () -> x.carrier(number, 0));
            add(all, () -> x.carrier(number, today));
        }
        return all.toString();
    }

    private static void pictureOfTicket(StringBuilder all, Rollover x, int ticket) {
        add(all, () -> x.line(ticket));
        for (int k = 0; k <= 10; k++) {
            int what = k;
            add(all, () -> x.ofTicket(ticket, what));
        }
    }

    private static void pictureOfCustomer(StringBuilder all, Rollover x, int customer, int today) {
        add(all, () -> x.suspect(customer));
        add(all, () -> x.wouldCost(customer, 720, 8, 0, 2000));
        for (int day : new int[] {Math.max(0, today - 6), today}) {
            for (int k = 0; k <= 3; k++) {
                int what = k;
                add(all, () -> x.ofDay(customer, day, what));
            }
        }
        int last = today / 30;
        for (int cycle : new int[] {last, last + 1}) {
            add(all, () -> x.best(customer, cycle, true));
            add(all, () -> x.best(customer, cycle, false));
            for (int k = 0; k <= 7; k++) {
                int what = k;
                add(all, () -> x.ofCycle(customer, cycle, what));
            }
        }
    }
}
