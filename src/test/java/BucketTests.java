/** BUCKETS: what is granted, bought and given, in which order it is taken, and when it lapses. */
public final class BucketTests extends Checks {
    public static void main(String[] args) {
        grantOfTheJoiningsCycle();
        grantIsAheadOfAllTickets();
        grantOfEachCycle();
        lastDayOfEachKeep();
        keepOfThePlanOfThatDay();
        takenOnTheLastDayAndNotBehind();
        addOnFromItsMinute();
        addOnForItsDays();
        giftLapsesWithItsCycle();
        giftOfAsManyAsThereAre();
        giftOfWhatLapsed();
        giftOfAGift();
        earliestLastDayFirst();
        ofOneLastDayWhatCameFirst();
        ofOneLastDayGrantsAmongOthers();
        emptyBucketsDoNotCount();
        daysInThePast();
        end();
    }

    /** "only GRANT * the DAYS that are left of it, that one too / 30": rounded down */
    private static void grantOfTheJoiningsCycle() {
        promise = 5;
        int[][] cases = {{0, 100, 100}, {0, 9999, 9999}, {0, 0, 0}, {1, 100, 96}, {15, 100, 50}, {28, 100, 6},
            {29, 100, 3}, {29, 29, 0}, {29, 30, 1}, {29, 59, 1}, {29, 60, 2}, {30, 100, 100}, {31, 100, 96},
            {59, 9999, 333}, {330, 9999, 9999}, {331, 9999, 9665}, {359, 9999, 333}};
        for (int[] c : cases) {
            Rollover x = new Rollover();
            x.plan(0, c[1], 1);
            Houses.passTo(x, c[0]);
            x.join(0, 0);
            String which = "DAY " + c[0] + ", GRANT " + c[1];
            dueOf(which, c[2], () -> x.ofDay(0, c[0], 1));
            dueOf(which, c[2] > 0 ? 1 : 0, () -> x.ofDay(0, c[0], 2));
            dueOf(which, c[0] % 30 == 29 ? c[2] : 0, () -> x.ofDay(0, c[0], 3));
            // The same if it is told later.
            Rollover y = new Rollover();
            y.plan(0, c[1], 1);
            Houses.passTo(y, 359);
            y.join(0, 359 - c[0]);
            dueOf(which, c[2], () -> y.ofDay(0, c[0], 1));
        }
    }

    /** "ahead of all TICKETS of that DAY" */
    private static void grantIsAheadOfAllTickets() {
        promise = 10;
        Rollover x = Houses.of(0, 60, 1, 1);
        x.call(0, 0, 0, 0, 0, 60);
        x.pass(29);
        x.call(0, 0, 1439, 0, 0, 60);
        x.pass(1);
        x.call(0, 0, 0, 0, 0, 60);
        x.call(0, 0, 0, 1, 0, 60);
        x.join(0, 3);
        x.call(1, 3, 0, 0, 0, 60);
        due("call 0 on day 0: 60+0+0", () -> x.line(0));
        due("call 1 on day 29: 0+0+60", () -> x.line(1));
        due("call 2 on day 30: 60+0+0", () -> x.line(2));
        due("call 3 on day 30: 0+0+60", () -> x.line(3));
        due("call 4 on day 27: 6+0+54", () -> x.line(4));
    }

    /** "on the first DAY of each later CYCLE" */
    private static void grantOfEachCycle() {
        promise = 17;
        Rollover x = Houses.of(0, 90, 1, 1);
        Houses.passTo(x, 359);
        for (int k = 0; k < 12; k++) {
            int first = 30 * k;
            due(90, () -> x.ofDay(0, first, 1));
            due(90, () -> x.ofDay(0, first + 29, 1));
            due(1, () -> x.ofDay(0, first, 2));
            due(0, () -> x.ofDay(0, first + 28, 3));
            due(90, () -> x.ofDay(0, first + 29, 3));
        }
    }

    /** PLAN 0 with a GRANT of 90 and this KEEP; PLAN 1, which holds from the next CYCLE on, has none. */
    private static Rollover onceGranted(int joined, int keep) {
        Rollover x = new Rollover();
        x.plan(0, 90, 1);
        x.units(0, keep, 60, 60, false);
        x.plan(0, 0, 1);
        x.pass(joined == 0 ? 30 : joined + 1);
        x.join(0, joined == 0 ? 30 : 1);
        x.change(0, 1);
        Houses.passTo(x, 240);
        return x;
    }

    /** "as LAST DAY the last one of the CYCLE that is KEEP (of that PLAN) CYCLES later" */
    private static void lastDayOfEachKeep() {
        promise = 3;
        for (int k = 0; k <= 3; k++) {
            String which = "KEEP " + k;
            int last = 29 + 30 * k;
            Rollover x = onceGranted(0, k);
            dueOf(which, 90, () -> x.ofDay(0, 0, 1));
            dueOf(which, 90, () -> x.ofDay(0, last - 1, 1));
            dueOf(which, 0, () -> x.ofDay(0, last - 1, 3));
            dueOf(which, 90, () -> x.ofDay(0, last, 1));
            dueOf(which, 90, () -> x.ofDay(0, last, 3));
            dueOf(which, 1, () -> x.ofDay(0, last, 2));
            dueOf(which, 0, () -> x.ofDay(0, last + 1, 1));
            dueOf(which, 0, () -> x.ofDay(0, last + 1, 2));
            dueOf(which, 0, () -> x.ofDay(0, last + 1, 3));
            // Of a JOINING on the last DAY of a CYCLE it counts from that CYCLE on.
            Rollover y = onceGranted(29, k);
            dueOf(which, 3, () -> y.ofDay(0, 29, 1));
            dueOf(which, k == 0 ? 3 : 0, () -> y.ofDay(0, 29, 3));
            dueOf(which, 3, () -> y.ofDay(0, last, 3));
            dueOf(which, 0, () -> y.ofDay(0, last + 1, 1));
        }
        // Whatever is kept beyond the last DAY is there to the end.
        Rollover x = Houses.of(0, 90, 1, 1);
        x.units(0, 3, 60, 60, false);
        Houses.passTo(x, 359);
        due(360, () -> x.ofDay(0, 359, 1));
        due(4, () -> x.ofDay(0, 359, 2));
        due(90, () -> x.ofDay(0, 359, 3));
    }

    /** "KEEP (of that PLAN)", "its PLAN of that DAY" */
    private static void keepOfThePlanOfThatDay() {
        promise = 6;
        Rollover x = new Rollover();
        x.plan(0, 100, 1);
        x.units(0, 1, 60, 60, false);
        x.plan(0, 200, 1);
        x.join(0, 0);
        x.pass(30);
        x.change(0, 1);
        x.pass(30);
        x.change(0, 0);
        x.pass(30);
        due(100, () -> x.ofDay(0, 29, 1));
        due(300, () -> x.ofDay(0, 30, 1));
        due(300, () -> x.ofDay(0, 59, 3));
        due(100, () -> x.ofDay(0, 60, 1));
        due(0, () -> x.ofDay(0, 89, 3));
        due(200, () -> x.ofDay(0, 90, 1));
        // "Tells how a PLAN counts (for all DAYS)": also of what was granted long ago.
        x.units(0, 0, 60, 60, false);
        due(200, () -> x.ofDay(0, 30, 1));
        due(100, () -> x.ofDay(0, 90, 1));
    }

    /** "BUCKETS that did not lapse (LAST DAY is that DAY or later)" */
    private static void takenOnTheLastDayAndNotBehind() {
        promise = 10;
        Rollover x = Houses.bare();
        x.addOn(0, 0, 0, 60, 3, 0);
        x.addOn(0, 0, 0, 60, 2, 0);
        x.pass(3);
        x.call(0, 2, 1439, 0, 0, 6);
        due("call 2 on day 1: 6+0+0", () -> x.line(2));
        due(54, () -> x.ofDay(0, 1, 3));
        x.call(0, 1, 0, 0, 0, 6);
        due(54, () -> x.ofDay(0, 2, 3));
        due(54, () -> x.ofDay(0, 2, 1));
        x.call(0, 1, 1439, 0, 0, 60);
        due("call 4 on day 2: 54+0+6", () -> x.line(4));
        x.undo(4);
        x.call(0, 0, 0, 0, 0, 6);
        due("call 5 on day 3: 0+0+6", () -> x.line(5));
        // Of a parent the same.
        Rollover y = Houses.bare();
        y.addOn(0, 0, 0, 60, 3, 0);
        y.child(1, 0, 9999);
        y.pass(3);
        y.call(1, 1, 1439, 0, 0, 6);
        y.call(1, 0, 0, 0, 0, 6);
        due("call 1 on day 2: 0+6+0", () -> y.line(1));
        due("call 2 on day 3: 0+0+6", () -> y.line(2));
    }

    /** "An ADD-ON is a BUCKET from its MINUTE on" */
    private static void addOnFromItsMinute() {
        promise = 12;
        Rollover x = Houses.bare();
        x.pass(1);
        x.addOn(0, 1, 700, 60, 9, 0);
        x.call(0, 1, 699, 0, 0, 6);
        x.call(0, 1, 700, 0, 0, 6);
        x.call(0, 0, 0, 0, 0, 6);
        due("call 1 on day 0: 0+0+6", () -> x.line(1));
        due("call 2 on day 0: 6+0+0", () -> x.line(2));
        due("call 3 on day 1: 6+0+0", () -> x.line(3));
        // At the first and the last MINUTE of a DAY.
        Rollover y = Houses.bare();
        y.addOn(0, 0, 1439, 6, 1, 0);
        y.addOn(1, 0, 0, 6, 1, 0);
        y.call(0, 0, 1438, 0, 0, 6);
        y.call(0, 0, 1439, 0, 0, 6);
        y.call(1, 0, 0, 0, 0, 6);
        due("call 2 on day 0: 0+0+6", () -> y.line(2));
        due("call 3 on day 0: 6+0+0", () -> y.line(3));
        due("call 4 on day 0: 6+0+0", () -> y.line(4));
    }

    /** "with as LAST DAY its DAY and its DAYS, less 1" */
    private static void addOnForItsDays() {
        promise = 12;
        for (int days : new int[] {1, 2, 30, 89, 90}) {
            Rollover x = Houses.bare();
            x.pass(120);
            x.addOn(0, 110, 1439, 1, days, 0);
            int last = 10 + days - 1;
            String which = "for " + days + " DAYS";
            dueOf(which, 0, () -> x.ofDay(0, 9, 1));
            dueOf(which, 1, () -> x.ofDay(0, 10, 1));
            dueOf(which, days == 1 ? 1 : 0, () -> x.ofDay(0, 10, 3));
            dueOf(which, 1, () -> x.ofDay(0, last, 1));
            dueOf(which, 1, () -> x.ofDay(0, last, 3));
            dueOf(which, 0, () -> x.ofDay(0, last + 1, 1));
            dueOf(which, 0, () -> x.ofDay(0, last + 1, 3));
        }
        Rollover x = Houses.bare();
        x.addOn(0, 0, 0, 9999, 90, 99);
        x.addOn(0, 0, 0, 1, 1, 0);
        due(10000, () -> x.ofDay(0, 0, 1));
        due(1, () -> x.ofDay(0, 0, 3));
        due(99, () -> x.ofCycle(0, 0, 0));
        // One that lasts beyond DAY 359.
        Houses.passTo(x, 359);
        x.addOn(0, 0, 1439, 77, 90, 1);
        x.addOn(0, 0, 1439, 7, 1, 1);
        due(84, () -> x.ofDay(0, 359, 1));
        due(7, () -> x.ofDay(0, 359, 3));
    }

    /** "whose LAST DAY is the last one of the CYCLE of that day" */
    private static void giftLapsesWithItsCycle() {
        promise = 11;
        for (int day : new int[] {0, 1, 29, 30, 59}) {
            Rollover x = Houses.bare();
            x.addOn(0, 0, 0, 100, 90, 0);
            x.pass(70);
            x.gift(0, 1, 70 - day, 5, 40);
            int last = day < 30 ? 29 : 59;
            String which = "on DAY " + day;
            if (day > 0) dueOf(which, 0, () -> x.ofDay(1, day - 1, 1));
            dueOf(which, 40, () -> x.ofDay(1, day, 1));
            dueOf(which, day == last ? 40 : 0, () -> x.ofDay(1, day, 3));
            dueOf(which, 40, () -> x.ofDay(1, last, 3));
            dueOf(which, 0, () -> x.ofDay(1, last + 1, 1));
            // What the giver keeps lapses as it did.
            dueOf(which, 60, () -> x.ofDay(0, 70, 1));
        }
        Rollover x = Houses.bare();
        Houses.passTo(x, 359);
        x.addOn(0, 0, 0, 10, 90, 0);
        x.gift(0, 1, 0, 1439, 10);
        due(10, () -> x.ofDay(1, 359, 3));
    }

    /** "A GIFT takes SECONDS out of own BUCKETS of the giver (as many as there are)" */
    private static void giftOfAsManyAsThereAre() {
        promise = 11;
        // {SECONDS that there are, SECONDS of the GIFT, how many are given}
        int[][] cases = {{60, 59, 59}, {60, 60, 60}, {60, 61, 60}, {60, 9999, 60}, {1, 1, 1}, {9999, 9999, 9999},
            {60, 1, 1}};
        for (int[] c : cases) {
            Rollover x = Houses.bare();
            x.addOn(0, 0, 0, c[0], 1, 0);
            due(1, () -> x.gift(0, 1, 0, 0, c[1]));
            String which = c[1] + " of " + c[0];
            dueOf(which, c[1], () -> x.ofTicket(1, 4));
            dueOf(which, c[2], () -> x.ofTicket(1, 7));
            dueOf(which, 0, () -> x.ofTicket(1, 6) + x.ofTicket(1, 8) + x.ofTicket(1, 9));
            dueOf(which, "gift 1 on day 0: " + c[2], () -> x.line(1));
            dueOf(which, c[0] - c[2], () -> x.ofDay(0, 0, 1));
            dueOf(which, c[0] == c[2] ? 0 : 1, () -> x.ofDay(0, 0, 2));
            dueOf(which, c[2], () -> x.ofDay(1, 0, 1));
            dueOf(which, 1, () -> x.ofDay(1, 0, 2));
        }
        // Out of several BUCKETS; what is given is one of them.
        Rollover x = Houses.bare();
        x.addOn(0, 0, 0, 5, 2, 0);
        x.addOn(0, 0, 0, 6, 1, 0);
        x.addOn(0, 0, 0, 7, 3, 0);
        x.gift(0, 1, 0, 1, 12);
        due(1, () -> x.ofDay(1, 0, 2));
        due(12, () -> x.ofDay(1, 0, 1));
        due(6, () -> x.ofDay(0, 0, 1));
        due(1, () -> x.ofDay(0, 0, 2));
        // A second GIFT of nothing makes no BUCKET.
        x.gift(0, 1, 0, 2, 6);
        x.gift(0, 1, 0, 3, 6);
        due("gift 5 on day 0: 0", () -> x.line(5));
        due(2, () -> x.ofDay(1, 0, 2));
        // No GIFT is a CALL: it is no part of what its CUSTOMER's CALLS took.
        due(0, () -> x.ofCycle(0, 0, 3) + x.ofCycle(0, 0, 5) + x.ofCycle(1, 0, 3));
    }

    private static void giftOfWhatLapsed() {
        promise = 11;
        Rollover x = Houses.bare();
        x.addOn(0, 0, 0, 50, 2, 0);
        x.pass(2);
        x.gift(0, 1, 1, 1439, 10);
        x.gift(0, 1, 0, 0, 10);
        due("gift 1 on day 1: 10", () -> x.line(1));
        due("gift 2 on day 2: 0", () -> x.line(2));
        // What was given is good for longer than what it was taken from.
        due(10, () -> x.ofDay(1, 2, 1));
    }

    /** What one got it can give away again, IN TIME. */
    private static void giftOfAGift() {
        promise = 11;
        Rollover x = Houses.bare();
        x.join(0, 0);
        x.addOn(0, 0, 5, 50, 9, 0);
        x.gift(1, 2, 0, 6, 30);
        x.gift(0, 1, 0, 6, 40);
        due("gift 1 on day 0: 0", () -> x.line(1));
        due("gift 2 on day 0: 40", () -> x.line(2));
        x.gift(1, 2, 0, 6, 30);
        due("gift 3 on day 0: 30", () -> x.line(3));
        due(10, () -> x.ofDay(1, 0, 1));
        due(30, () -> x.ofDay(2, 0, 1));
        x.gift(2, 0, 0, 7, 9999);
        due(40, () -> x.ofDay(0, 0, 1));
        due(2, () -> x.ofDay(0, 0, 2));
    }

    /** "those with the earliest LAST DAY first" */
    private static void earliestLastDayFirst() {
        promise = 17;
        Rollover x = Houses.bare();
        // They come with LAST DAYS 5, 2, 9, 3.
        x.addOn(0, 0, 0, 10, 6, 0);
        x.addOn(0, 0, 0, 20, 3, 0);
        x.addOn(0, 0, 0, 40, 10, 0);
        x.addOn(0, 0, 0, 80, 4, 0);
        x.pass(9);
        x.call(0, 9, 1, 0, 0, 24);
        due(0, () -> x.ofDay(0, 2, 3));
        due(76, () -> x.ofDay(0, 3, 3));
        due(10, () -> x.ofDay(0, 5, 3));
        due(40, () -> x.ofDay(0, 9, 3));
        due(126, () -> x.ofDay(0, 0, 1));
        due(3, () -> x.ofDay(0, 0, 2));
        x.call(0, 9, 2, 0, 0, 90);
        due(0, () -> x.ofDay(0, 5, 3));
        due(36, () -> x.ofDay(0, 9, 3));
        // What came last may lapse first; what came on a later DAY too.
        x.call(0, 8, 3, 0, 0, 6);
        x.addOn(0, 8, 2, 6, 8, 0);
        due(36, () -> x.ofDay(0, 9, 3));
        due(0, () -> x.ofDay(0, 8, 3));
    }

    /** "of several which came first IN TIME" */
    private static void ofOneLastDayWhatCameFirst() {
        promise = 17;
        // By MINUTE, though the later one has the smaller number.
        Rollover x = Houses.bare();
        x.addOn(0, 0, 10, 48, 5, 0);
        x.addOn(0, 0, 5, 72, 5, 0);
        x.call(0, 0, 11, 0, 0, 60);
        due(2, () -> x.ofDay(0, 0, 2));
        due(60, () -> x.ofDay(0, 0, 1));
        x.correct(2, 72);
        due(1, () -> x.ofDay(0, 0, 2));
        // By number, in one MINUTE.
        Rollover y = Houses.bare();
        y.addOn(0, 0, 10, 72, 5, 0);
        y.addOn(0, 0, 10, 48, 5, 0);
        y.call(0, 0, 10, 0, 0, 60);
        due(2, () -> y.ofDay(0, 0, 2));
        // By DAY, of one LAST DAY.
        Rollover z = Houses.bare();
        z.pass(1);
        z.addOn(0, 0, 0, 48, 4, 0);
        z.addOn(0, 1, 1439, 72, 5, 0);
        z.call(0, 0, 11, 0, 0, 60);
        due(2, () -> z.ofDay(0, 1, 2));
        // Three of one LAST DAY, and one that lapses later.
        Rollover w = Houses.bare();
        w.addOn(0, 0, 0, 12, 9, 0);
        w.addOn(0, 0, 1, 30, 5, 0);
        w.addOn(0, 0, 2, 6, 5, 0);
        w.addOn(0, 0, 3, 18, 5, 0);
        w.call(0, 0, 4, 0, 0, 24);
        due(4, () -> w.ofDay(0, 0, 2));
        w.correct(4, 36);
        due(2, () -> w.ofDay(0, 0, 2));
        due(30, () -> w.ofDay(0, 0, 1));
        w.correct(4, 48);
        due(2, () -> w.ofDay(0, 0, 2));
        due(18, () -> w.ofDay(0, 0, 1));
        w.correct(4, 54);
        due(1, () -> w.ofDay(0, 0, 2));
        due(12, () -> w.ofDay(0, 0, 1));
    }

    /** A GRANT comes ahead of all TICKETS of its DAY, behind those of the DAYS ahead. */
    private static void ofOneLastDayGrantsAmongOthers() {
        promise = 17;
        Rollover x = Houses.of(0, 90, 1, 2);
        x.units(0, 0, 60, 6, false);
        x.pass(30);
        // All three lapse on DAY 59: bought on DAY 29, granted and bought on DAY 30.
        x.addOn(0, 1, 1439, 72, 31, 0);
        x.addOn(0, 0, 0, 48, 30, 0);
        x.call(0, 0, 0, 0, 0, 60);
        due(3, () -> x.ofDay(0, 30, 2));
        x.correct(2, 72);
        due(2, () -> x.ofDay(0, 30, 2));
        x.correct(2, 120);
        due(2, () -> x.ofDay(0, 30, 2));
        x.correct(2, 162);
        due(1, () -> x.ofDay(0, 30, 2));
        due(48, () -> x.ofDay(0, 30, 1));
        // A GIFT of DAY 30 comes behind the GRANT of that DAY.
        Rollover y = Houses.of(0, 90, 1, 2);
        y.units(0, 0, 60, 6, false);
        y.pass(30);
        y.gift(0, 1, 0, 0, 60);
        y.call(1, 0, 0, 0, 0, 60);
        due(2, () -> y.ofDay(1, 30, 2));
        y.correct(1, 90);
        due(1, () -> y.ofDay(1, 30, 2));
        due(60, () -> y.ofDay(1, 30, 1));
    }

    /** "2 how many such BUCKETS have some" */
    private static void emptyBucketsDoNotCount() {
        promise = 17;
        Rollover x = Houses.of(0, 60, 1, 1);
        due(1, () -> x.ofDay(0, 0, 2));
        x.units(0, 0, 59, 6, false);
        x.call(0, 0, 0, 0, 0, 59);
        due(1, () -> x.ofDay(0, 0, 1));
        due(1, () -> x.ofDay(0, 0, 2));
        x.units(0, 0, 60, 6, false);
        due(0, () -> x.ofDay(0, 0, 1));
        due(0, () -> x.ofDay(0, 0, 2));
        due(0, () -> x.ofDay(0, 0, 3));
        due(true, () -> x.isSound());
    }

    /** "as that DAY ends": what comes on a later DAY is not yet there, what came late is. */
    private static void daysInThePast() {
        promise = 17;
        Rollover x = Houses.of(0, 300, 1, 2);
        x.pass(10);
        x.call(0, 5, 1439, 0, 0, 60);
        x.call(0, 4, 0, 0, 0, 60);
        x.gift(0, 1, 3, 0, 100);
        due(300, () -> x.ofDay(0, 4, 1));
        due(240, () -> x.ofDay(0, 5, 1));
        due(180, () -> x.ofDay(0, 6, 1));
        due(80, () -> x.ofDay(0, 7, 1));
        due(300, () -> x.ofDay(1, 6, 1));
        due(400, () -> x.ofDay(1, 7, 1));
        due(80, () -> x.ofDay(0, 10, 1));
        x.undo(0);
        due(300, () -> x.ofDay(0, 5, 1));
        due(140, () -> x.ofDay(0, 10, 1));
        // What was asked of an earlier DAY changes nothing of TODAY.
        due("call 1 on day 6: 60+0+0", () -> x.line(1));
        due(2, () -> x.ofDay(1, 10, 2));
    }
}
