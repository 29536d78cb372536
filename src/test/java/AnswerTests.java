/** CARRIERS, SUSPECTS, BEST PLANS, and what is answered of all that: at the edges that the document names. */
public final class AnswerTests extends Checks {
    public static void main(String[] args) {
        carriersAtFirst();
        portedFromADayOn();
        portedAndToldLast();
        begunMinutes();
        owedByTheCallsDay();
        whatCostsNothing();
        incomingMinutes();
        settlementsTogether();
        overlapOfOneMinute();
        overlapByTheEarlierOnesSeconds();
        overlapOverMidnight();
        overlapOfOnesOwnCalls();
        fiveNumbersOnADay();
        threeNumbersOfAnother();
        severalSuspicions();
        bestOfTies();
        bestOnAllDays();
        bestWithAllElseAsItIs();
        bestOfFarCycles();
        correctTellsOneBill();
        correctAtItsEnds();
        undoTellsAllBills();
        billsOfTheHouse();
        lines();
        wouldCostAsTheNextNumber();
        wouldCostOfWhatIsLeft();
        wouldCostChangesNothing();
        soundAtAllLimits();
        digestWrapsAround();
        end();
    }

    /** "Each NUMBER belongs to a CARRIER (its number modulo 4 at first)" */
    private static void carriersAtFirst() {
        promise = 20;
        Rollover x = Houses.bare();
        Houses.passTo(x, 359);
        for (int n = 0; n < 16; n++) {
            int number = n;
            due(n % 4, () -> x.carrier(number, 0));
            due(n % 4, () -> x.carrier(number, 359));
        }
    }

    /** "it can be PORTED from a DAY on (TODAY or an earlier one)" */
    private static void portedFromADayOn() {
        promise = 15;
        Rollover x = Houses.bare();
        x.pass(60);
        due(3, () -> x.port(15, 0, 60));
        due(0, () -> x.carrier(15, 0));
        due(0, () -> x.port(0, 3, 30));
        due(0, () -> x.carrier(0, 29));
        due(3, () -> x.carrier(0, 30));
        due(3, () -> x.carrier(0, 60));
        due(1, () -> x.port(5, 2, 0));
        due(1, () -> x.carrier(5, 59));
        due(2, () -> x.carrier(5, 60));
        due(1, () -> x.carrier(1, 60));
        // To where it belongs already is a PORTING too.
        due(2, () -> x.port(5, 2, 0));
        due(4, () -> x.house(7));
        x.pass(1);
        due(2, () -> x.carrier(5, 61));
    }

    /** "(that of a DAY is as with PLANS)": told last of those that hold from that DAY or an earlier one on */
    private static void portedAndToldLast() {
        promise = 15;
        Rollover x = Houses.bare();
        x.pass(50);
        due(2, () -> x.port(2, 1, 10));
        // From DAY 20 on, told behind that of DAY 40: it holds on all DAYS from 20 on.
        due(1, () -> x.port(2, 3, 30));
        due(3, () -> x.carrier(2, 50));
        due(3, () -> x.carrier(2, 40));
        due(3, () -> x.carrier(2, 20));
        due(2, () -> x.carrier(2, 19));
        due(3, () -> x.port(2, 0, 5));
        due("3 3 0", () -> x.carrier(2, 40) + " " + x.carrier(2, 44) + " " + x.carrier(2, 45));
        due(0, () -> x.port(2, 1, 5));
        due("3 1", () -> x.carrier(2, 44) + " " + x.carrier(2, 45));
    }

    /** "1 for each begun 60 of its SECONDS (not COUNTED ones)" */
    private static void begunMinutes() {
        promise = 21;
        int[][] cases = {{1, 1}, {59, 1}, {60, 1}, {61, 2}, {119, 2}, {120, 2}, {121, 3}, {9960, 166}, {9961, 167},
            {9999, 167}};
        for (int[] c : cases) {
            Rollover x = Houses.bare();
            // 120 are COUNTED at least.
            x.units(0, 0, 120, 120, false);
            x.call(0, 0, 0, 3, 0, c[0]);
            dueOf(c[0] + " SECONDS", c[1], () -> x.settlement(3));
            dueOf(c[0] + " SECONDS", 0, () -> x.settlement(1) + x.settlement(2));
        }
        // Each CALL for itself, by its SECONDS from now on.
        Rollover x = Houses.bare();
        x.call(0, 0, 0, 1, 0, 1);
        x.call(1, 0, 0, 1, 3, 1);
        due(2, () -> x.settlement(1));
        x.correct(0, 61);
        due(3, () -> x.settlement(1));
        x.correct(0, 60);
        due(2, () -> x.settlement(1));
    }

    /** "a NUMBER of another CARRIER, as of its DAY" */
    private static void owedByTheCallsDay() {
        promise = 21;
        Rollover x = Houses.bare();
        x.pass(3);
        x.call(0, 2, 1439, 2, 0, 600);
        x.call(0, 1, 0, 2, 0, 60);
        x.port(2, 1, 1);
        due("1 10", () -> x.settlement(1) + " " + x.settlement(2));
        x.port(2, 0, 0);
        due("1 10", () -> x.settlement(1) + " " + x.settlement(2));
        x.port(2, 0, 2);
        due("0 0", () -> x.settlement(1) + " " + x.settlement(2));
        x.port(2, 3, 3);
        due(11, () -> x.settlement(3));
    }

    /** "(FREE or not, but not VOIDED)", "(0 is this house)" */
    private static void whatCostsNothing() {
        promise = 21;
        Rollover x = Houses.bare();
        x.circle(0, 2);
        x.call(0, 0, 700, 1, 0, 61);
        due(2, () -> x.settlement(1));
        due(0, () -> x.ofTicket(0, 6));
        x.undo(0);
        due(0, () -> x.settlement(1));
        // Numbers of this house, GIFTS, ADD-ONS and DOUBLED CALLS.
        x.call(0, 0, 0, 0, 0, 999);
        x.call(0, 0, 0, 12, 0, 999);
        x.call(0, 0, 700, 1, 0, 61);
        x.addOn(0, 0, 0, 999, 1, 9);
        x.gift(0, 1, 0, 0, 999);
        due(0, () -> x.house(8));
        x.port(12, 2, 0);
        due(17, () -> x.house(8));
        due(17, () -> x.settlement(2));
    }

    /** "INCOMING minutes can be told of a CARRIER; it owes 1 for each." */
    private static void incomingMinutes() {
        promise = 16;
        Rollover x = Houses.bare();
        due(0, () -> x.incoming(1, 0));
        due(-1, () -> x.incoming(1, 1));
        due(-10000, () -> x.incoming(1, 9999));
        due(-19999, () -> x.incoming(1, 9999));
        due(-9999, () -> x.incoming(2, 9999));
        due(-2, () -> x.incoming(3, 2));
        x.call(0, 0, 0, 3, 0, 121);
        due(1, () -> x.settlement(3));
        due(1, () -> x.incoming(3, 0));
        due(0, () -> x.incoming(3, 1));
        due(-19999, () -> x.settlement(1));
    }

    /** "8 SETTLEMENTS of all CARRIERS together" */
    private static void settlementsTogether() {
        promise = 23;
        Rollover x = Houses.bare();
        for (int n = 0; n < 4; n++) x.call(0, 0, 0, n, 0, 60 * (1 << n));
        due(2 + 4 + 8, () -> x.house(8));
        x.incoming(2, 100);
        due(14 - 100, () -> x.house(8));
        x.incoming(1, 9999);
        x.incoming(3, 1);
        due(14 - 100 - 10000, () -> x.house(8));
    }

    /** Two CALLS of CUSTOMER 0 that begin so far from each other: {SECONDS of the first, MINUTES, is it SUSPECT}. */
    private static void overlapOfOneMinute() {
        promise = 22;
        int[][] cases = {{1, 0, 1}, {60, 0, 1}, {1, 1, 0}, {59, 1, 0}, {60, 1, 0}, {61, 1, 1}, {119, 2, 0}, {120, 2, 0},
            {121, 2, 1}, {9999, 166, 1}, {9999, 167, 0}, {9960, 166, 0}, {9961, 166, 1}};
        for (int[] c : cases) {
            String which = c[0] + " SECONDS, " + c[1] + " MINUTES";
            Rollover x = Houses.bare();
            x.call(0, 0, 500, 1, 0, c[0]);
            x.call(0, 0, 500 + c[1], 2, 0, 1);
            dueOf(which, c[2], () -> x.suspect(0));
            dueOf(which, c[2], () -> x.house(9));
            // The same if they come the other way round.
            Rollover y = Houses.bare();
            y.call(0, 0, 500 + c[1], 2, 0, 1);
            y.call(0, 0, 500, 1, 0, c[0]);
            dueOf(which, c[2], () -> y.suspect(0));
        }
    }

    /** "less than its SECONDS later": those of the one that began first, as they are from now on */
    private static void overlapByTheEarlierOnesSeconds() {
        promise = 22;
        Rollover x = Houses.bare();
        x.call(0, 0, 500, 1, 0, 1);
        x.call(0, 0, 501, 1, 0, 9999);
        due(0, () -> x.suspect(0));
        x.correct(0, 61);
        due(1, () -> x.suspect(0));
        x.correct(0, 60);
        due(0, () -> x.suspect(0));
        // SECONDS alone, not COUNTED ones.
        x.units(0, 0, 120, 120, false);
        due(120, () -> x.ofTicket(0, 6));
        due(0, () -> x.suspect(0));
        // One far ahead can last over a third that lies between.
        x.call(0, 0, 490, 1, 0, 600);
        due(0, () -> x.suspect(0));
        x.correct(2, 661);
        due(1, () -> x.suspect(0));
        x.undo(0);
        due(1, () -> x.suspect(0));
        x.undo(1);
        due(0, () -> x.suspect(0));
    }

    /** From one DAY to the next, and from one CYCLE to the next. */
    private static void overlapOverMidnight() {
        promise = 22;
        for (int day : new int[] {1, 30, 60}) {
            Rollover x = Houses.bare();
            Houses.passTo(x, 60);
            x.call(0, 60 - day + 1, 1439, 1, 0, 60);
            x.call(0, 60 - day, 0, 2, 0, 1);
            due(0, () -> x.suspect(0));
            x.correct(0, 61);
            due(1, () -> x.suspect(0));
        }
        // The same MINUTE of another DAY is another one.
        Rollover x = Houses.bare();
        x.pass(1);
        x.call(0, 1, 0, 1, 0, 9999);
        x.call(0, 0, 0, 1, 0, 9999);
        due(0, () -> x.suspect(0));
    }

    /** "if two of its CALLS overlap": not with itself, not with another CUSTOMER's, a GIFT or an ADD-ON */
    private static void overlapOfOnesOwnCalls() {
        promise = 22;
        Rollover x = Houses.bare();
        x.call(0, 0, 500, 1, 0, 9999);
        x.call(1, 0, 500, 1, 0, 9999);
        x.gift(0, 1, 0, 500, 60);
        x.addOn(0, 0, 500, 60, 1, 0);
        due(0, () -> x.suspect(0));
        due(0, () -> x.suspect(1));
        x.call(0, 0, 500, 1, 0, 60);
        due(0, () -> x.suspect(0));
        x.circle(0, 2);
        x.call(0, 0, 501, 1, 0, 60);
        due(1, () -> x.suspect(0));
        due(0, () -> x.suspect(1));
        due(1, () -> x.house(9));
    }

    /** "1, if on one DAY it called 5 or more different NUMBERS" */
    private static void fiveNumbersOnADay() {
        promise = 22;
        Rollover x = Houses.bare();
        x.pass(1);
        for (int k = 0; k < 4; k++) x.call(0, 1, 10 * k, k, 0, 1);
        // The same NUMBER again, another one on the next DAY, and another CUSTOMER's.
        x.call(0, 1, 100, 3, 0, 1);
        x.call(0, 0, 0, 4, 0, 1);
        x.call(1, 1, 0, 15, 0, 1);
        due(0, () -> x.suspect(0));
        x.call(0, 1, 1439, 15, 0, 1);
        due(2, () -> x.suspect(0));
        due(1, () -> x.house(9));
        x.undo(0);
        due(0, () -> x.suspect(0));
        x.call(0, 1, 200, 0, 0, 1);
        due(2, () -> x.suspect(0));
        x.call(0, 1, 300, 9, 0, 1);
        due(2, () -> x.suspect(0));
        // On the later one of two DAYS; FREE CALLS count.
        Rollover y = Houses.bare();
        y.circle(0, 15);
        y.call(0, 0, 0, 9, 0, 1);
        y.pass(1);
        for (int k = 0; k < 5; k++) y.call(0, 0, 10 * k, k, 0, 1);
        due(2, () -> y.suspect(0));
    }

    /** "2, if another CUSTOMER called 3 or more NUMBERS that this one called too" */
    private static void threeNumbersOfAnother() {
        promise = 22;
        Rollover x = Houses.bare();
        x.join(0, 0);
        x.pass(90);
        // On whatever DAYS; two of one CUSTOMER and one of another are not three of one.
        x.call(0, 90, 0, 0, 0, 1);
        x.call(0, 60, 0, 7, 0, 1);
        x.call(0, 30, 0, 15, 0, 1);
        x.call(1, 3, 0, 0, 0, 1);
        x.call(1, 2, 0, 7, 0, 1);
        x.call(2, 1, 0, 15, 0, 1);
        x.call(1, 1, 0, 7, 0, 1);
        due("0 0 0", () -> x.suspect(0) + " " + x.suspect(1) + " " + x.suspect(2));
        x.call(1, 0, 0, 15, 0, 1);
        due("4 4 0", () -> x.suspect(0) + " " + x.suspect(1) + " " + x.suspect(2));
        due(2, () -> x.house(9));
        x.undo(7);
        due("0 0 0", () -> x.suspect(0) + " " + x.suspect(1) + " " + x.suspect(2));
        due(0, () -> x.house(9));
        x.call(2, 0, 0, 7, 0, 1);
        x.call(2, 0, 9, 0, 0, 1);
        due("4 0 4", () -> x.suspect(0) + " " + x.suspect(1) + " " + x.suspect(2));
    }

    /** All three at once are 7. */
    private static void severalSuspicions() {
        promise = 22;
        Rollover x = Houses.bare();
        for (int k = 0; k < 5; k++) x.call(0, 0, 0, k, 0, 1);
        due(3, () -> x.suspect(0));
        for (int k = 0; k < 3; k++) x.call(1, 0, 10 * k, k, 0, 1);
        due(7, () -> x.suspect(0));
        due(4, () -> x.suspect(1));
        due(2, () -> x.house(9));
    }

    /** "where one of several is taken .. it is that with the smallest number" */
    private static void bestOfTies() {
        promise = 25;
        Rollover x = new Rollover();
        x.plan(9, 0, 1);
        x.plan(5, 0, 2);
        x.plan(5, 60, 2);
        x.plan(6, 0, 2);
        x.plan(5, 0, 1);
        x.join(0, 0);
        due(1, () -> x.best(0, 0, false));
        due(5, () -> x.best(0, 0, true));
        x.call(0, 0, 0, 0, 0, 60);
        due(2, () -> x.best(0, 0, false));
        due(5, () -> x.best(0, 0, true));
        x.call(0, 0, 1, 0, 0, 60);
        // 60 that are granted save as much as a lower PRICE of both: 7 by PLANS 2 and 4.
        due(2, () -> x.best(0, 0, false));
        due(7, () -> x.best(0, 0, true));
        due(0, () -> x.ofDay(0, 0, 0));
        due(11, () -> x.ofCycle(0, 0, 0));
        // Of one PLAN alone it is that.
        Rollover y = Houses.of(9, 0, 1, 1);
        due(0, () -> y.best(0, 0, false));
        due(9, () -> y.best(0, 11, true));
    }

    /** "if it had had that PLAN on all DAYS (all is rated anew so ..)" */
    private static void bestOnAllDays() {
        promise = 25;
        Rollover x = new Rollover();
        x.plan(5, 0, 1);
        x.plan(4, 60, 1);
        x.units(1, 1, 60, 60, false);
        x.join(0, 0);
        x.pass(30);
        x.call(0, 0, 0, 0, 0, 180);
        // Had it had PLAN 1 from DAY 0 on, 60 of CYCLE 0 were there too.
        due(5 + 3, () -> x.ofCycle(0, 1, 0));
        due(1, () -> x.best(0, 1, false));
        due(4 + 1, () -> x.best(0, 1, true));
        x.change(0, 1);
        due(4 + 2, () -> x.ofCycle(0, 1, 0));
        due(4 + 1, () -> x.best(0, 1, true));
        // STEPS, CAPS, NIGHTS and KEEPS are those of the PLAN that is tried.
        x.steps(0, 0, 1, 1);
        x.units(1, 0, 60, 60, false);
        due(4 + 2, () -> x.best(0, 1, true));
        due(0, () -> x.best(0, 1, false));
        x.units(1, 0, 60, 60, true);
        due(4, () -> x.best(0, 1, true));
    }

    /** "(.. all else as it is)": the PLANS of all others too */
    private static void bestWithAllElseAsItIs() {
        promise = 25;
        Rollover x = new Rollover();
        x.plan(9, 60, 1);
        x.plan(8, 0, 1);
        x.join(0, 0);
        x.join(0, 0);
        x.join(0, 0);
        x.child(1, 0, 9999);
        x.gift(2, 1, 0, 0, 60);
        x.call(1, 0, 1, 0, 0, 180);
        due("call 1 on day 0: 120+60+0", () -> x.line(1));
        // Its own 60 are gone with PLAN 1, its parent's and what was given are not.
        due(9, () -> x.best(1, 0, true));
        due(0, () -> x.best(1, 0, false));
        x.correct(1, 120);
        due(8, () -> x.best(1, 0, true));
        due(1, () -> x.best(1, 0, false));
        // With PLAN 1, the giver has nothing to give: its own BILL is less all the same.
        due(8, () -> x.best(2, 0, true));
        due("gift 0 on day 0: 60", () -> x.line(0));
        // The PRICES of its ADD-ONS are paid by whatever PLAN.
        x.addOn(2, 0, 0, 1, 1, 50);
        due(58, () -> x.best(2, 0, true));
    }

    /** "(NONE, if it JOINED behind that CYCLE)" */
    private static void bestOfFarCycles() {
        promise = 25;
        Rollover x = new Rollover();
        x.plan(9, 0, 1);
        x.plan(8, 0, 1);
        Houses.passTo(x, 331);
        x.join(0, 1);
        x.join(0, 331);
        for (int k = 0; k < 12; k++) {
            int cycle = k;
            due(k < 11 ? NONE : 8, () -> x.best(0, cycle, true));
            due(k < 11 ? NONE : 1, () -> x.best(0, cycle, false));
            due(8, () -> x.best(1, cycle, true));
        }
    }

    /** "by how much the BILL of its CUSTOMER for its CYCLE is more by that (also below 0)" */
    private static void correctTellsOneBill() {
        promise = 13;
        Rollover x = Houses.of(5, 120, 1, 2);
        x.units(0, 1, 60, 60, false);
        x.pass(40);
        x.call(0, 40, 0, 0, 0, 60);
        x.call(0, 10, 0, 0, 0, 180);
        due(5, () -> x.ofCycle(0, 1, 0));
        // 60 fewer are kept: the later CYCLE's BILL is more, its own is not.
        due(0, () -> x.correct(0, 120));
        due(5, () -> x.ofCycle(0, 0, 0));
        due(6, () -> x.ofCycle(0, 1, 0));
        due(1, () -> x.correct(0, 180));
        due(-1, () -> x.correct(0, 120));
        due(-1, () -> x.correct(1, 60));
        due(0, () -> x.correct(1, 1));
        // A CALL that comes later of the same CYCLE counts.
        x.call(0, 9, 0, 0, 0, 60);
        due(5, () -> x.ofCycle(0, 1, 0));
        due(1, () -> x.correct(1, 61));
        due(0, () -> x.ofTicket(1, 9));
        due(100, () -> x.ofTicket(2, 9));
        // Of a FREE CALL it is nothing.
        x.circle(0, 1);
        due(0, () -> x.correct(1, 9999));
        due(9999, () -> x.ofTicket(1, 4));
    }

    /** "seconds: its SECONDS from now on", 1 to 9999 */
    private static void correctAtItsEnds() {
        promise = 13;
        Rollover x = Houses.bare();
        x.call(0, 0, 0, 1, 0, 60);
        due(1667 - 10, () -> x.correct(0, 9999));
        due("9999 10002", () -> x.ofTicket(0, 4) + " " + x.ofTicket(0, 6));
        due(1 - 1667, () -> x.correct(0, 1));
        due("1 6", () -> x.ofTicket(0, 4) + " " + x.ofTicket(0, 6));
        due(0, () -> x.correct(0, 1));
        due(0, () -> x.correct(0, 6));
        due(1, () -> x.correct(0, 7));
        // Rounded BILLS are compared: 125 and 250 are 2 and 3.
        x.call(1, 0, 0, 1, 1, 6);
        due(1, () -> x.correct(1, 12));
        due(1, () -> x.correct(1, 18));
        due(1, () -> x.correct(1, 24));
        due(2, () -> x.correct(1, 30));
        due(-5, () -> x.correct(1, 6));
        x.undo(0);
        refused(STATE, x, () -> x.correct(0, 6));
    }

    /** "BILLS of all CUSTOMERS for all CYCLES up to that of TODAY (NONE counts as 0)" */
    private static void undoTellsAllBills() {
        promise = 14;
        Rollover x = Houses.of(5, 120, 1, 2);
        x.units(0, 1, 60, 60, false);
        x.pass(60);
        x.join(0, 0);
        x.call(0, 60, 0, 0, 0, 180);
        x.call(0, 30, 0, 0, 0, 180);
        x.gift(0, 1, 30, 1, 60);
        x.call(1, 1, 0, 0, 0, 240);
        // All that 0 has: 120 and 120; 1 of the first CALL and 2 of the second are left over, none to give.
        due(6, () -> x.ofCycle(0, 0, 0));
        due(6, () -> x.ofCycle(0, 1, 0));
        due(5, () -> x.ofCycle(1, 1, 0));
        due(6 + 6 + 5 + 3 * 5 + 5, () -> x.house(6));
        // Without the first CALL, CYCLE 1 has 240: 180 for the CALL, 60 to give.
        due(-2, () -> x.undo(0));
        due("gift 2 on day 30: 60", () -> x.line(2));
        due(5, () -> x.ofCycle(0, 1, 0));
        // Without the GIFT, 1 still has 240 for 240.
        due(0, () -> x.undo(2));
        x.addOn(2, 0, 0, 60, 1, 99);
        due(-99, () -> x.undo(4));
        due(0, () -> x.undo(3));
        due(0, () -> x.undo(1));
        due(5 * 7, () -> x.house(6));
    }

    /** "6 BILLS of all CUSTOMERS for all CYCLES up to that of TODAY together (NONE counts as 0)" */
    private static void billsOfTheHouse() {
        promise = 23;
        Rollover x = new Rollover();
        x.plan(10, 0, 1);
        due(0, () -> x.house(6));
        x.pass(59);
        x.join(0, 30);
        due(20, () -> x.house(6));
        x.join(0, 29);
        due(30, () -> x.house(6));
        x.join(0, 0);
        due(40, () -> x.house(6));
        x.pass(1);
        due(70, () -> x.house(6));
        x.call(2, 1, 0, 0, 1, 60);
        due(72, () -> x.house(6));
        Houses.passTo(x, 359);
        due(10 * (12 + 11 + 11) + 2, () -> x.house(6));
    }

    /** "its number": of one figure and of two; each KIND, with what is least. */
    private static void lines() {
        promise = 24;
        Rollover x = Houses.of(0, 60, 1, 2);
        x.pass(100);
        for (int k = 0; k < 10; k++) x.call(0, 91, k, 0, 0, 60);
        x.call(0, 0, 0, 0, 0, 120);
        x.gift(0, 1, 0, 0, 60);
        x.addOn(0, 0, 1, 1, 1, 0);
        x.gift(0, 1, 0, 2, 60);
        due("call 0 on day 9: 60+0+0", () -> x.line(0));
        due("call 9 on day 9: 0+0+60", () -> x.line(9));
        due("call 10 on day 100: 60+0+60", () -> x.line(10));
        due("gift 11 on day 100: 0", () -> x.line(11));
        due("add-on 12 on day 100: 1", () -> x.line(12));
        due("gift 13 on day 100: 1", () -> x.line(13));
        x.undo(13);
        x.undo(12);
        x.undo(10);
        due("gift 13 on day 100: 0 void", () -> x.line(13));
        due("add-on 12 on day 100: 0 void", () -> x.line(12));
        due("call 10 on day 100: 0+0+0 void", () -> x.line(10));
        due("gift 11 on day 100: 60", () -> x.line(11));
        // A FREE one that is VOIDED is no more free.
        x.circle(0, 1);
        due("call 0 on day 9: free", () -> x.line(0));
        due("call 10 on day 100: 0+0+0 void", () -> x.line(10));
        // "own, parent's and CHARGED SECONDS with "+" between", each of more than one figure.
        Rollover y = Houses.of(0, 60, 1, 2);
        y.child(1, 0, 50);
        y.call(1, 0, 0, 0, 0, 9999);
        due("call 0 on day 0: 60+50+9910", () -> y.line(0));
        y.addOn(1, 0, 0, 9999, 1, 0);
        due("add-on 1 on day 0: 9999", () -> y.line(1));
    }

    /** "if it came now": behind all TICKETS of its MINUTE, ahead of those of later MINUTES */
    private static void wouldCostAsTheNextNumber() {
        promise = 26;
        Rollover x = Houses.bare();
        x.pass(1);
        x.addOn(0, 1, 0, 60, 1, 0);
        x.addOn(0, 0, 700, 60, 1, 0);
        x.call(0, 0, 701, 1, 0, 36);
        due(600, () -> x.wouldCost(0, 699, 0, 0, 36));
        due(0, () -> x.wouldCost(0, 700, 0, 0, 60));
        due(100, () -> x.wouldCost(0, 700, 0, 0, 61));
        due(200, () -> x.wouldCost(0, 701, 0, 0, 36));
        due(200, () -> x.wouldCost(0, 1439, 0, 0, 36));
        // "as if it was not DOUBLED"
        due(200, () -> x.wouldCost(0, 701, 1, 0, 36));
        due(NONE, () -> x.call(0, 0, 701, 1, 0, 36));
        // As it then is, if it comes.
        x.call(0, 0, 701, 0, 0, 36);
        due(200, () -> x.ofTicket(3, 9));
    }

    /** LIMIT, STEP and CAP as they are then; its parent's SECONDS; ".. and there was room for it" */
    private static void wouldCostOfWhatIsLeft() {
        promise = 26;
        Rollover x = Houses.bare();
        x.child(1, 0, 60);
        x.addOn(0, 0, 0, 90, 1, 0);
        x.call(1, 0, 5, 0, 0, 42);
        due(0, () -> x.wouldCost(1, 5, 1, 0, 18));
        due(100, () -> x.wouldCost(1, 5, 1, 0, 24));
        due(100, () -> x.wouldCost(1, 5, 1, 0, 19));
        x.steps(0, 6, 9, 5);
        due(100, () -> x.wouldCost(1, 5, 1, 0, 24));
        due(500, () -> x.wouldCost(1, 5, 1, 0, 30));
        due(500, () -> x.wouldCost(1, 5, 1, 3, 9999));
        for (int k = 2; k < 48; k++) x.addOn(1, 0, 1439, 1, 1, 0);
        long before = x.digest();
        due(0, () -> x.wouldCost(1, 5, 1, 0, 18));
        due(100, () -> x.wouldCost(1, 5, 1, 0, 24));
        due(0, () -> x.wouldCost(1, 1439, 1, 0, 9) + x.wouldCost(1, 1439, 1, 0, 46));
        due(before, () -> x.digest());
        due(STATE, () -> x.call(1, 0, 5, 1, 0, 18));
        // By the PLAN of TODAY.
        Rollover y = Houses.of(0, 0, 1, 1);
        y.plan(0, 0, 7);
        y.change(0, 1);
        due(700, () -> y.wouldCost(0, 0, 0, 0, 60));
        y.pass(1);
        y.change(0, 0);
        due(100, () -> y.wouldCost(0, 0, 0, 0, 60));
    }

    /** "(nothing is changed)": a CALL that only would be makes nobody SUSPECT, costs nothing, and doubles none. */
    private static void wouldCostChangesNothing() {
        promise = 26;
        Rollover x = Houses.bare();
        for (int k = 0; k < 4; k++) x.call(0, 0, 500 + 10 * k, k, 0, 60);
        x.call(1, 0, 500, 2, 0, 60);
        x.call(1, 0, 510, 3, 0, 60);
        long before = x.digest();
        // It would overlap, be to a fifth NUMBER, and to a third one of both.
        due(166700, () -> x.wouldCost(0, 500, 4, 0, 9999));
        due("0 0 0", () -> x.suspect(0) + " " + x.suspect(1) + " " + x.house(9));
        due(100, () -> x.wouldCost(1, 490, 1, 0, 1));
        due("0 0 0", () -> x.suspect(0) + " " + x.suspect(1) + " " + x.house(9));
        due("5 0 6", () -> x.house(8) + " " + x.house(5) + " " + x.house(3));
        due(before, () -> x.digest());
        due(INDEX, () -> x.line(6));
        due(6, () -> x.call(1, 0, 490, 1, 0, 1));
        due("4 4 2", () -> x.suspect(0) + " " + x.suspect(1) + " " + x.house(9));
    }

    /** "whether all is SOUND": LIMITS and CAPS just reached, BUCKETS that are empty, CHILDREN without CHILDREN */
    private static void soundAtAllLimits() {
        promise = 27;
        Rollover x = Houses.bare();
        due(true, () -> x.isSound());
        x.addOn(0, 0, 0, 120, 1, 0);
        x.child(1, 0, 60);
        x.steps(0, 0, 2, 6);
        x.call(1, 0, 1, 0, 3, 120);
        due("call 1 on day 0: 0+60+60", () -> x.line(1));
        due(600, () -> x.ofTicket(1, 9));
        due(true, () -> x.isSound());
        x.gift(0, 1, 0, 2, 9999);
        due(0, () -> x.ofDay(0, 0, 1));
        due(true, () -> x.isSound());
        x.circle(1, 1);
        x.call(1, 0, 3, 0, 3, 120);
        due(true, () -> x.isSound());
        x.child(1, 0, 0);
        x.steps(0, 0, 2, 1);
        x.circle(1, 0);
        due(true, () -> x.isSound());
        x.undo(0);
        due(true, () -> x.isSound());
        x.child(1, NONE, 0);
        x.child(0, 1, 9999);
        x.pass(120);
        due(true, () -> x.isSound());
    }

    /** "d becomes d * 31 + v, which wraps around as a 64-bit integer" */
    private static void digestWrapsAround() {
        promise = 28;
        Rollover x = Houses.bare();
        x.pass(61);
        x.child(1, 0, 60);
        x.addOn(0, 0, 0, 120, 9, 4);
        x.call(1, 0, 0, 3, 3, 999);
        x.call(1, 0, 0, 3, 3, 999);
        x.gift(0, 1, 0, 0, 5);
        x.undo(2);
        x.port(9, 2, 7);
        x.incoming(3, 9999);
        java.util.List<Integer> numbers = new java.util.ArrayList<>();
        for (int w = 0; w <= 9; w++) numbers.add(x.house(w));
        for (int c = 0; c < 2; c++) {
            for (int w = 0; w <= 3; w++) numbers.add(x.ofDay(c, 61, w));
            for (int k = 0; k <= 2; k++) for (int w = 0; w <= 7; w++) numbers.add(x.ofCycle(c, k, w));
        }
        for (int t = 0; t < 3; t++) for (int w = 5; w <= 10; w++) numbers.add(x.ofTicket(t, w));
        for (int n = 0; n < 16; n++) numbers.add(x.carrier(n, 61));
        for (int c = 1; c <= 3; c++) numbers.add(x.settlement(c));
        numbers.add(x.isSound() ? 1 : 0);
        java.math.BigInteger d = java.math.BigInteger.valueOf(8111);
        for (int v : numbers) d = d.multiply(java.math.BigInteger.valueOf(31)).add(java.math.BigInteger.valueOf(v));
        java.math.BigInteger whole = d;
        due(true, () -> whole.bitLength() > 64);
        due(whole.longValue(), () -> x.digest());
        // Numbers below 0 are among them.
        due(true, () -> numbers.contains(-9999 + 17));
        due(3, () -> numbers.get(3));
    }
}
