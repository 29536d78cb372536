/** How a CALL is counted and charged: FIRST and UNITS, FREE ones, STEPS, CAPS, BILLS that are rounded once. */
public final class RatingTests extends Checks {
    public static void main(String[] args) {
        toldAtFirst();
        countedSeconds();
        countedHowForAllDays();
        freeInTheNight();
        freeInTheCircle();
        freeIsNotCharged();
        zones();
        prices();
        lastUnitIsAPart();
        stepInOneCall();
        stepOfZero();
        stepOverCalls();
        stepOfEachCycle();
        stepCountsWhatIsChargedAlone();
        stepOfEachCustomer();
        stepOverAChange();
        capJustReached();
        capOverCalls();
        capOfZero();
        capAtItsEnds();
        capOfEachDayAndCustomer();
        capKeepsSecondsCharged();
        capInTime();
        billRoundedUpOnce();
        billOfFeeAndAddOns();
        largestCharges();
        end();
    }

    /** "KEEP 0, FIRST 60, UNIT 60, LATER PRICE as PRICE, STEP 0, no CAP, no NIGHT at first" */
    private static void toldAtFirst() {
        promise = 2;
        Rollover x = Houses.of(0, 100, 99, 1);
        x.pass(31);
        due(100, () -> x.ofDay(0, 29, 3));
        due(100, () -> x.ofDay(0, 30, 1));
        x.call(0, 1, 0, 0, 0, 1);
        x.call(0, 1, 1439, 0, 0, 61);
        x.call(0, 1, 720, 0, 0, 9999);
        due(60, () -> x.ofTicket(0, 6));
        due(120, () -> x.ofTicket(1, 6));
        due(0, () -> x.ofCycle(0, 1, 6));
        due(60, () -> x.ofTicket(0, 7));
        due(40, () -> x.ofTicket(2, 7));
        // 10020 counted, less 40: 167 UNITS, none of them cheaper, and no CAP.
        due(167 * 9900, () -> x.ofTicket(2, 9));
        due(2 * 9900, () -> x.ofTicket(1, 9));
        due(60, () -> x.units(0, 0, 60, 60, false));
        due(0, () -> x.steps(0, 0, 99, 0));
        due(167 * 9900, () -> x.ofTicket(2, 9));
        // All of it can be told with 0 and at its most.
        Rollover y = Houses.of(0, 0, 0, 1);
        y.call(0, 0, 0, 0, 3, 9999);
        due(0, () -> y.ofCycle(0, 0, 0));
        Rollover z = Houses.of(99, 9999, 99, 1);
        due(9999, () -> z.ofDay(0, 0, 1));
        due(99, () -> z.ofCycle(0, 0, 0));
    }

    /** "FIRST, if it has no more than that, otherwise FIRST and as many UNITS as are needed for the rest" */
    private static void countedSeconds() {
        promise = 3;
        // {FIRST, UNIT, SECONDS, COUNTED SECONDS}
        int[][] cases = {{60, 60, 1, 60}, {60, 60, 59, 60}, {60, 60, 60, 60}, {60, 60, 61, 120}, {60, 60, 120, 120},
            {60, 60, 121, 180}, {1, 6, 1, 1}, {1, 6, 2, 7}, {1, 6, 7, 7}, {1, 6, 8, 13}, {1, 120, 1, 1},
            {1, 120, 2, 121}, {1, 120, 121, 121}, {1, 120, 122, 241}, {120, 6, 1, 120}, {120, 6, 120, 120},
            {120, 6, 121, 126}, {120, 6, 126, 126}, {120, 6, 127, 132}, {120, 120, 120, 120}, {120, 120, 121, 240},
            {1, 6, 9999, 10003}, {120, 120, 9999, 10080}, {60, 7, 9999, 10000}, {30, 7, 45, 51}, {1, 7, 9997, 9997}};
        for (int[] c : cases) {
            Rollover x = Houses.of(0, 0, 1, 1);
            x.units(0, 0, c[0], c[1], false);
            x.call(0, 0, 0, 0, 0, c[2]);
            String which = "FIRST " + c[0] + ", UNIT " + c[1] + ", SECONDS " + c[2];
            dueOf(which, c[3], () -> x.ofTicket(0, 6));
            dueOf(which, c[3], () -> x.ofCycle(0, 0, 2));
            dueOf(which, "call 0 on day 0: 0+0+" + c[3], () -> x.line(0));
            dueOf(which, c[2], () -> x.ofTicket(0, 4));
        }
    }

    /** "Tells how a PLAN counts (for all DAYS)", "Tells STEP, LATER PRICE and CAP of a PLAN (for all DAYS)" */
    private static void countedHowForAllDays() {
        promise = 3;
        Rollover x = Houses.of(0, 0, 2, 1);
        x.call(0, 0, 400, 0, 0, 90);
        x.pass(90);
        x.call(0, 0, 400, 0, 0, 90);
        due(60, () -> x.units(0, 0, 10, 40, false));
        due(90, () -> x.ofTicket(0, 6));
        due(90, () -> x.ofTicket(1, 6));
        due(40, () -> x.units(0, 0, 120, 6, false));
        due(120, () -> x.ofTicket(0, 6));
        promise = 4;
        due(0, () -> x.steps(0, 60, 1, 25));
        due(10 * 200 + 500, () -> x.ofTicket(0, 9));
        due(25, () -> x.steps(0, 60, 1, 999));
        due(999, () -> x.steps(0, 60, 1, 0));
        due(10 * 200 + 10 * 100, () -> x.ofTicket(0, 9));
        due(10 * 200 + 10 * 100, () -> x.ofTicket(1, 9));
    }

    /** "if the PLAN has a NIGHT and its MINUTE is 1320 or more, or less than 360" */
    private static void freeInTheNight() {
        promise = 3;
        int[] minutes = {0, 1, 358, 359, 360, 361, 720, 1318, 1319, 1320, 1321, 1438, 1439};
        for (int m : minutes) {
            boolean isNight = m <= 359 || m >= 1320;
            String which = "MINUTE " + m;
            Rollover x = Houses.of(0, 100, 1, 1);
            x.call(0, 0, m, 0, 0, 60);
            dueOf(which, 60, () -> x.ofTicket(0, 6));
            x.units(0, 0, 60, 60, true);
            dueOf(which, isNight ? 0 : 60, () -> x.ofTicket(0, 6));
            dueOf(which, isNight ? 1 : 0, () -> x.ofCycle(0, 0, 6));
            dueOf(which, isNight ? "call 0 on day 0: free" : "call 0 on day 0: 60+0+0", () -> x.line(0));
            x.units(0, 0, 60, 60, false);
            dueOf(which, 60, () -> x.ofTicket(0, 6));
            Rollover y = Houses.of(0, 0, 1, 1);
            dueOf(which, 100, () -> y.wouldCost(0, m, 0, 0, 60));
            y.units(0, 0, 60, 60, true);
            dueOf(which, isNight ? 0 : 100, () -> y.wouldCost(0, m, 0, 0, 60));
        }
        // ADD-ONS and GIFTS are what they are, in the NIGHT too.
        Rollover x = Houses.of(0, 0, 1, 2);
        x.units(0, 0, 60, 60, true);
        x.addOn(0, 0, 0, 60, 1, 5);
        x.gift(0, 1, 0, 1439, 20);
        due("gift 1 on day 0: 20", () -> x.line(1));
        due(5, () -> x.ofCycle(0, 0, 0));
    }

    /** "if its NUMBER is in the CIRCLE"; "Tells a CIRCLE (for all DAYS)" */
    private static void freeInTheCircle() {
        promise = 7;
        Rollover x = Houses.bare();
        for (int n = 0; n < 16; n++) x.call(0, 0, 10 * n, n, 0, 6);
        for (int n = 0; n < 16; n++) x.call(1, 0, 10 * n, n, 0, 6);
        x.pass(33);
        due(0, () -> x.ofCycle(0, 0, 6));
        due(16, () -> x.ofCycle(0, 0, 0));
        for (int set : new int[] {1, 0x8000, 0x8001, 0xf, 0xf000, 0x1248, 0}) {
            due(Integer.bitCount(set), () -> x.circle(0, set));
            due(Integer.bitCount(set), () -> x.ofCycle(0, 0, 6));
            due(16 - Integer.bitCount(set), () -> x.ofCycle(0, 0, 0));
            for (int n : new int[] {0, 3, 12, 15}) {
                due((set >> n & 1) == 1 ? 0 : 6, () -> x.ofTicket(n, 6));
            }
        }
        // It is nobody else's CIRCLE.
        x.circle(0, 0xf);
        due(0, () -> x.ofCycle(1, 0, 6));
        due(16, () -> x.ofCycle(1, 0, 0));
        due(0, () -> x.wouldCost(0, 0, 3, 3, 9999));
        due(100, () -> x.wouldCost(0, 0, 4, 0, 6));
    }

    /** "It is FREE (nothing is taken, no charge)" */
    private static void freeIsNotCharged() {
        promise = 7;
        Rollover x = Houses.of(0, 100, 1, 2);
        x.child(1, 0, 9999);
        x.circle(1, 2);
        x.call(1, 0, 700, 1, 3, 9999);
        x.call(1, 0, 701, 2, 0, 60);
        for (int k = 6; k <= 9; k++) {
            int what = k;
            due(0, () -> x.ofTicket(0, what));
        }
        due("call 1 on day 0: 60+0+0", () -> x.line(1));
        due(100, () -> x.ofDay(0, 0, 1));
        due(40, () -> x.ofDay(1, 0, 1));
        due(2, () -> x.ofCycle(1, 0, 5));
        due(1, () -> x.ofCycle(1, 0, 6));
        // No CALL that is VOIDED counts as a FREE one.
        x.undo(0);
        due(1, () -> x.ofCycle(1, 0, 5));
        due(0, () -> x.ofCycle(1, 0, 6));
    }

    /** "all of that * (100 + 25 * ZONE), in hundredths" */
    private static void zones() {
        promise = 10;
        int[] hundredths = {100, 125, 150, 175};
        for (int z = 0; z <= 3; z++) {
            int zone = z;
            Rollover x = Houses.of(0, 0, 1, 1);
            x.call(0, 0, 0, 0, zone, 60);
            dueOf("ZONE " + zone, hundredths[z], () -> x.ofTicket(0, 9));
            dueOf("ZONE " + zone, 3 * hundredths[z], () -> x.wouldCost(0, 0, 0, zone, 180));
            dueOf("ZONE " + zone, zone == 0 ? 1 : 2, () -> x.ofCycle(0, 0, 0));
        }
    }

    /** PRICES of 0 and 99, LATER ones too. */
    private static void prices() {
        promise = 4;
        // {PRICE, LATER PRICE, CHARGE of two UNITS with a STEP between them}
        int[][] cases = {{0, 0, 0}, {0, 99, 9900}, {99, 0, 9900}, {99, 99, 19800}, {1, 2, 300}};
        for (int[] c : cases) {
            Rollover x = Houses.of(0, 0, c[0], 1);
            x.steps(0, 60, c[1], 0);
            dueOf("PRICE " + c[0] + ", LATER PRICE " + c[1], c[2], () -> x.wouldCost(0, 0, 0, 0, 61));
        }
    }

    /** "for each UNIT of what is left (the last one may be a part of one)" */
    private static void lastUnitIsAPart() {
        promise = 10;
        // {SECONDS in BUCKETS, UNITS that are CHARGED} of a CALL of 180 COUNTED SECONDS
        int[][] cases = {{0, 3}, {1, 3}, {59, 3}, {60, 2}, {61, 2}, {119, 2}, {120, 1}, {121, 1}, {179, 1}, {180, 0},
            {181, 0}};
        for (int[] c : cases) {
            Rollover x = Houses.of(0, c[0], 1, 1);
            x.call(0, 0, 0, 0, 0, 180);
            dueOf(c[0] + " SECONDS", 100 * c[1], () -> x.ofTicket(0, 9));
            dueOf(c[0] + " SECONDS", Math.max(0, 180 - c[0]), () -> x.ofCycle(0, 0, 2));
        }
        // FIRST is charged by UNITS as well: of 120 SECONDS these are 20, of 1 SECOND it is a part of one.
        Rollover x = Houses.of(0, 0, 1, 1);
        x.units(0, 0, 120, 6, false);
        due(2000, () -> x.wouldCost(0, 0, 0, 0, 1));
        x.units(0, 0, 1, 120, false);
        due(100, () -> x.wouldCost(0, 0, 0, 0, 1));
        due(200, () -> x.wouldCost(0, 0, 0, 0, 2));
    }

    /** "LATER PRICE, if STEP SECONDS or more .. were CHARGED .. ahead of that UNIT" */
    private static void stepInOneCall() {
        promise = 4;
        // {STEP, CHARGE of three UNITS of 6 SECONDS, PRICE 1, LATER PRICE 5}
        int[][] cases = {{0, 1500}, {1, 1100}, {5, 1100}, {6, 1100}, {7, 700}, {11, 700}, {12, 700}, {13, 300},
            {18, 300}, {19, 300}, {9999, 300}};
        for (int[] c : cases) {
            Rollover x = Houses.bare();
            x.steps(0, c[0], 5, 0);
            x.call(0, 0, 0, 0, 0, 18);
            dueOf("STEP " + c[0], c[1], () -> x.ofTicket(0, 9));
        }
        Rollover x = Houses.bare();
        x.steps(0, 9999, 5, 0);
        x.call(0, 0, 0, 0, 0, 9999);
        due(100 * 1667, () -> x.ofTicket(0, 9));
        x.call(0, 0, 1, 0, 0, 6);
        due(500, () -> x.ofTicket(1, 9));
        x.correct(0, 9990);
        due(100, () -> x.ofTicket(1, 9));
        x.correct(0, 9996);
        due(100, () -> x.ofTicket(1, 9));
        x.units(0, 0, 9, 6, false);
        x.correct(0, 9999);
        due(9999, () -> x.ofTicket(0, 6));
        due(1000, () -> x.ofTicket(1, 9));
    }

    /** "(with a STEP of 0: always)" */
    private static void stepOfZero() {
        promise = 4;
        Rollover x = Houses.bare();
        x.steps(0, 0, 7, 0);
        due(700, () -> x.wouldCost(0, 0, 0, 0, 1));
        due(2100, () -> x.wouldCost(0, 0, 0, 0, 18));
        x.steps(0, 1, 7, 0);
        due(100, () -> x.wouldCost(0, 0, 0, 0, 1));
        due(1500, () -> x.wouldCost(0, 0, 0, 0, 18));
    }

    /** Over several CALLS, IN TIME, with a part of a UNIT in the first. */
    private static void stepOverCalls() {
        promise = 4;
        Rollover x = Houses.bare();
        x.steps(0, 18, 5, 0);
        x.addOn(0, 0, 0, 4, 1, 0);
        x.call(0, 0, 3, 0, 0, 12);
        x.call(0, 0, 2, 0, 0, 6);
        x.call(0, 0, 1, 0, 0, 12);
        // 8 are CHARGED of the first CALL IN TIME, then 6, then 12: UNITS begin at 0, 6; 8; 14, 20.
        due(200, () -> x.ofTicket(3, 9));
        due(100, () -> x.ofTicket(2, 9));
        due(600, () -> x.ofTicket(1, 9));
        x.undo(2);
        due(200, () -> x.ofTicket(1, 9));
        x.steps(0, 14, 5, 0);
        due(600, () -> x.ofTicket(1, 9));
        x.steps(0, 8, 5, 0);
        due(1000, () -> x.ofTicket(1, 9));
        due(200, () -> x.ofTicket(3, 9));
    }

    /** "in that CYCLE" */
    private static void stepOfEachCycle() {
        promise = 4;
        Rollover x = Houses.bare();
        x.steps(0, 6, 5, 0);
        x.pass(59);
        x.call(0, 59, 0, 0, 0, 6);
        x.call(0, 30, 1439, 0, 0, 6);
        x.call(0, 29, 0, 0, 0, 6);
        x.call(0, 0, 1439, 0, 0, 6);
        due("100 500 100 500", () -> x.ofTicket(0, 9) + " " + x.ofTicket(1, 9) + " " + x.ofTicket(2, 9) + " "
                + x.ofTicket(3, 9));
        due(500, () -> x.wouldCost(0, 1439, 1, 0, 6));
        x.pass(1);
        due(100, () -> x.wouldCost(0, 0, 1, 0, 6));
    }

    /** What is FREE, or taken out of own or a parent's BUCKETS, is not CHARGED. */
    private static void stepCountsWhatIsChargedAlone() {
        promise = 4;
        Rollover x = Houses.bare();
        x.steps(0, 6, 5, 0);
        x.child(1, 0, 60);
        x.circle(1, 2);
        x.addOn(0, 0, 0, 60, 1, 0);
        x.addOn(1, 0, 0, 60, 1, 0);
        x.call(1, 0, 1, 1, 0, 600);
        x.call(1, 0, 2, 0, 0, 60);
        x.call(1, 0, 3, 0, 0, 60);
        x.call(1, 0, 4, 0, 0, 6);
        x.call(1, 0, 5, 0, 0, 6);
        due("call 4 on day 0: 0+60+0", () -> x.line(4));
        due(100, () -> x.ofTicket(5, 9));
        due(500, () -> x.ofTicket(6, 9));
    }

    /** "CHARGED to that CUSTOMER" */
    private static void stepOfEachCustomer() {
        promise = 4;
        Rollover x = Houses.bare();
        x.steps(0, 6, 5, 0);
        x.call(0, 0, 1, 0, 0, 60);
        x.call(1, 0, 2, 0, 0, 6);
        x.call(1, 0, 3, 0, 0, 6);
        due(100, () -> x.ofTicket(1, 9));
        due(500, () -> x.ofTicket(2, 9));
    }

    /** STEP is that of the PLAN of the DAY; what was CHARGED ahead counts, by whatever PLAN. */
    private static void stepOverAChange() {
        promise = 4;
        Rollover x = new Rollover();
        x.plan(0, 0, 1);
        x.units(0, 0, 6, 6, false);
        x.steps(0, 9999, 1, 0);
        x.plan(0, 0, 2);
        x.units(1, 0, 6, 6, false);
        x.steps(1, 12, 3, 0);
        x.join(0, 0);
        x.call(0, 0, 0, 0, 0, 6);
        x.pass(1);
        x.change(0, 1);
        x.call(0, 0, 0, 0, 0, 12);
        due(200 + 300, () -> x.ofTicket(1, 9));
        due(100, () -> x.ofTicket(0, 9));
    }

    /** "CHARGES of one CUSTOMER on one DAY are together CAP * 100 at most" */
    private static void capJustReached() {
        promise = 4;
        // {CAP, CHARGES of three CALLS of 100, 250 and 100}
        int[][] cases = {{1, 100, 0, 0}, {2, 100, 100, 0}, {3, 100, 200, 0}, {4, 100, 250, 50}, {5, 100, 250, 100},
            {999, 100, 250, 100}, {0, 100, 250, 100}};
        for (int[] c : cases) {
            Rollover x = Houses.bare();
            x.steps(0, 0, 1, c[0]);
            x.call(0, 0, 0, 0, 0, 6);
            x.call(0, 0, 1, 0, 1, 12);
            x.call(0, 0, 2, 0, 0, 6);
            for (int k = 0; k < 3; k++) {
                int ticket = k;
                dueOf("CAP " + c[0] + ", CALL " + k, c[1 + k], () -> x.ofTicket(ticket, 9));
            }
            dueOf("CAP " + c[0], c[1] + c[2] + c[3], () -> x.ofCycle(0, 0, 1));
            dueOf("CAP " + c[0], 24, () -> x.ofCycle(0, 0, 2));
            dueOf("CAP " + c[0], true, () -> x.isSound());
        }
    }

    /** Each of many CALLS counts for CAP, not the last one alone. */
    private static void capOverCalls() {
        promise = 4;
        Rollover x = Houses.bare();
        x.steps(0, 0, 1, 4);
        for (int k = 0; k < 7; k++) x.call(0, 0, k, 0, 0, 6);
        for (int k = 0; k < 7; k++) {
            int ticket = k;
            due(k < 4 ? 100 : 0, () -> x.ofTicket(ticket, 9));
        }
        due(4, () -> x.ofCycle(0, 0, 0));
        due(0, () -> x.wouldCost(0, 9, 0, 0, 9999));
        // What is VOIDED leaves room to the later ones; so does what is FREE.
        x.undo(0);
        due(100, () -> x.ofTicket(4, 9));
        due(0, () -> x.ofTicket(5, 9));
        x.call(0, 0, 0, 5, 0, 6);
        due(0, () -> x.ofTicket(4, 9));
        x.circle(0, 32);
        due(100, () -> x.ofTicket(4, 9));
    }

    /** "a CAP (0 to 999; 0: none)" */
    private static void capOfZero() {
        promise = 4;
        Rollover x = Houses.of(0, 0, 99, 1);
        due(0, () -> x.steps(0, 0, 99, 0));
        due(167 * 9900, () -> x.wouldCost(0, 0, 0, 0, 9999));
        due(0, () -> x.steps(0, 0, 99, 1));
        due(100, () -> x.wouldCost(0, 0, 0, 0, 9999));
        due(1, () -> x.steps(0, 0, 99, 0));
        due(167 * 9900, () -> x.wouldCost(0, 0, 0, 0, 9999));
    }

    private static void capAtItsEnds() {
        promise = 4;
        for (int cap : new int[] {1, 2, 998, 999}) {
            Rollover x = Houses.of(0, 0, 99, 1);
            x.steps(0, 0, 99, cap);
            x.call(0, 0, 0, 0, 3, 9999);
            dueOf("CAP " + cap, cap * 100, () -> x.ofTicket(0, 9));
            dueOf("CAP " + cap, cap, () -> x.ofCycle(0, 0, 0));
            dueOf("CAP " + cap, 0, () -> x.wouldCost(0, 0, 0, 0, 1));
            dueOf("CAP " + cap, cap, () -> x.steps(0, 0, 99, 0));
        }
    }

    /** "of one CUSTOMER on one DAY" */
    private static void capOfEachDayAndCustomer() {
        promise = 4;
        Rollover x = Houses.bare();
        x.steps(0, 0, 1, 3);
        x.pass(2);
        x.call(0, 1, 1439, 0, 0, 60);
        x.call(0, 0, 0, 0, 0, 60);
        x.call(1, 1, 1439, 0, 0, 60);
        x.call(0, 2, 0, 0, 0, 12);
        x.call(0, 2, 1439, 0, 0, 12);
        due("300 300 300 200 100", () -> x.ofTicket(0, 9) + " " + x.ofTicket(1, 9) + " " + x.ofTicket(2, 9) + " "
                + x.ofTicket(3, 9) + " " + x.ofTicket(4, 9));
        due(900, () -> x.ofCycle(0, 0, 1));
        due(9, () -> x.ofCycle(0, 0, 0));
        due(3, () -> x.ofCycle(1, 0, 0));
        // Between two CALLS of one CUSTOMER there may be those of another one.
        x.call(1, 2, 3, 0, 0, 18);
        due(100, () -> x.ofTicket(4, 9));
        due(true, () -> x.isSound());
    }

    /** "(what would be above is not charged; its SECONDS count as CHARGED all the same)" */
    private static void capKeepsSecondsCharged() {
        promise = 4;
        Rollover x = Houses.bare();
        x.steps(0, 60, 5, 1);
        x.call(0, 0, 0, 0, 0, 60);
        due(100, () -> x.ofTicket(0, 9));
        due(60, () -> x.ofCycle(0, 0, 2));
        due("call 0 on day 0: 0+0+60", () -> x.line(0));
        x.pass(1);
        x.steps(0, 60, 5, 99);
        due(1000, () -> x.ofTicket(0, 9));
        x.call(0, 0, 0, 0, 0, 6);
        due(500, () -> x.ofTicket(1, 9));
        x.steps(0, 60, 5, 3);
        due(300, () -> x.ofTicket(0, 9));
        due(300, () -> x.ofTicket(1, 9));
        due(66, () -> x.ofCycle(0, 0, 2));
    }

    /** A CALL that comes late but is ahead IN TIME has what CAP leaves ahead of the others. */
    private static void capInTime() {
        promise = 4;
        Rollover x = Houses.bare();
        x.steps(0, 0, 1, 2);
        x.call(0, 0, 9, 0, 0, 12);
        due(200, () -> x.ofTicket(0, 9));
        x.call(0, 0, 8, 0, 0, 6);
        due(100, () -> x.ofTicket(0, 9));
        due(100, () -> x.ofTicket(1, 9));
        due(0, () -> x.wouldCost(0, 9, 0, 0, 6));
        due(100, () -> x.wouldCost(0, 8, 0, 0, 6));
        due(200, () -> x.wouldCost(0, 7, 0, 0, 600));
    }

    /** "CHARGES of that CYCLE / 100, rounded up once" */
    private static void billRoundedUpOnce() {
        promise = 18;
        // {ZONE, how many CALLS of one UNIT, CHARGES, BILL}
        int[][] cases = {{0, 1, 100, 1}, {0, 2, 200, 2}, {1, 1, 125, 2}, {1, 2, 250, 3}, {1, 3, 375, 4}, {1, 4, 500, 5},
            {1, 5, 625, 7}, {2, 1, 150, 2}, {2, 2, 300, 3}, {3, 1, 175, 2}, {3, 3, 525, 6}, {3, 4, 700, 7},
            {3, 0, 0, 0}};
        for (int[] c : cases) {
            Rollover x = Houses.bare();
            for (int k = 0; k < c[1]; k++) x.call(0, 0, k, 0, c[0], 6);
            String which = c[1] + " of ZONE " + c[0];
            dueOf(which, c[2], () -> x.ofCycle(0, 0, 1));
            dueOf(which, c[3], () -> x.ofCycle(0, 0, 0));
            dueOf(which, c[3], () -> x.house(6));
            dueOf(which, c[3], () -> x.best(0, 0, true));
        }
        // Each CYCLE's and each CUSTOMER's BILL is rounded for itself.
        Rollover x = Houses.bare();
        x.call(0, 0, 0, 0, 1, 6);
        x.call(1, 0, 0, 0, 1, 6);
        x.pass(30);
        x.call(0, 0, 0, 0, 1, 6);
        due(6, () -> x.house(6));
    }

    /** "the FEE .., the PRICES of its ADD-ONS, and CHARGES" */
    private static void billOfFeeAndAddOns() {
        promise = 18;
        for (int fee : new int[] {0, 1, 99}) {
            Rollover x = Houses.of(fee, 0, 1, 1);
            due(fee, () -> x.ofCycle(0, 0, 0));
            x.addOn(0, 0, 0, 1, 1, 99);
            due(fee + 99, () -> x.ofCycle(0, 0, 0));
            x.addOn(0, 0, 0, 1, 1, 0);
            due(fee + 99, () -> x.ofCycle(0, 0, 0));
            x.addOn(0, 0, 0, 1, 1, 3);
            due(fee + 102, () -> x.ofCycle(0, 0, 0));
            due(102, () -> x.ofCycle(0, 0, 7));
            x.call(0, 0, 1, 0, 1, 60);
            due(fee + 102 + 2, () -> x.ofCycle(0, 0, 0));
            due(-99, () -> x.undo(0));
            due(3, () -> x.ofCycle(0, 0, 7));
            due(fee + 3 + 2, () -> x.ofCycle(0, 0, 0));
            // A later CYCLE has none of it but its FEE.
            due(fee, () -> x.ofCycle(0, 1, 0));
        }
        // ADD-ONS are of the CYCLE of their DAY, however long they are good.
        Rollover x = Houses.bare();
        x.pass(30);
        x.addOn(0, 1, 1439, 1, 90, 5);
        x.addOn(0, 0, 0, 1, 90, 7);
        due(5, () -> x.ofCycle(0, 0, 7));
        due(7, () -> x.ofCycle(0, 1, 7));
    }

    /** The largest CHARGES that 48 TICKETS can come to. */
    private static void largestCharges() {
        promise = 18;
        Rollover x = Houses.of(99, 0, 99, 1);
        x.units(0, 0, 1, 6, false);
        for (int k = 0; k < 48; k++) x.call(0, 0, k, 0, 3, 9999);
        int charge = 1668 * 99 * 175;
        due(10003, () -> x.ofTicket(0, 6));
        due(charge, () -> x.ofTicket(0, 9));
        due(48 * charge, () -> x.ofCycle(0, 0, 1));
        due(99 + 48 * charge / 100, () -> x.ofCycle(0, 0, 0));
        due(48 * 10003, () -> x.ofCycle(0, 0, 2));
        due(charge, () -> x.wouldCost(0, 0, 0, 3, 9999));
        due(true, () -> x.isSound());
    }
}
