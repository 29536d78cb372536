/** What a telephone costs: plans, buckets of seconds, tickets rated in time, carriers and suspects. */
public final class Rollover {
    private static final int NONE = -1;
    private static final int DAYS = 360;
    private static final int CYCLE_DAYS = 30;
    private static final int CYCLES = 12;
    private static final int MINUTES = 1440;
    private static final int MOST_PLANS = 5;
    private static final int MOST_CUSTOMERS = 8;
    private static final int MOST_TICKETS = 48;
    private static final int MOST_PORTINGS = 20;
    private static final int MOST_SECONDS = 9999;
    private static final int NUMBERS = 16;
    private static final int CARRIERS = 4;
    private static final int CALL = 0;
    private static final int GIFT = 1;
    private static final int ADD_ON = 2;

    private final Books books = new Books();
    private final Carriers carriers = new Carriers();
    // What stands is rated anew only when it is asked for behind a change.
    private final Rating current = new Rating(books);
    private boolean isRated = false;
    // What would be, or was as an earlier day ended, is rated apart, so that the current rating stays.
    private final Rating trial = new Rating(books);
    private int today = 0;
    private int doubled = 0;

    public Rollover() {
    }

    // ---- plans and customers

    public int plan(int fee, int grant, int price) throws IllegalArgumentException, IllegalStateException {
        needRange(fee, 0, 99);
        needRange(grant, 0, MOST_SECONDS);
        needRange(price, 0, 99);
        if (books.planCount >= MOST_PLANS) {
            throw new IllegalStateException("there are 5 plans");
        }
        Plan told = books.plans[books.planCount];
        told.fee = fee;
        told.grant = grant;
        told.price = price;
        told.later = price;
        books.planCount++;
        return books.planCount - 1;
    }

    public int units(int plan, int keep, int first, int unit, boolean isNight)
            throws IndexOutOfBoundsException, IllegalArgumentException {
        needIndex(plan, books.planCount);
        needRange(keep, 0, 3);
        needRange(first, 1, 120);
        needRange(unit, 6, 120);
        Plan told = books.plans[plan];
        int before = told.unit;
        told.keep = keep;
        told.first = first;
        told.unit = unit;
        told.isNight = isNight;
        isRated = false;
        return before;
    }

    public int steps(int plan, int step, int later, int cap)
            throws IndexOutOfBoundsException, IllegalArgumentException {
        needIndex(plan, books.planCount);
        needRange(step, 0, MOST_SECONDS);
        needRange(later, 0, 99);
        needRange(cap, 0, 999);
        Plan told = books.plans[plan];
        int before = told.cap;
        told.step = step;
        told.later = later;
        told.cap = cap;
        isRated = false;
        return before;
    }

    public int join(int plan, int ago)
            throws IndexOutOfBoundsException, IllegalArgumentException, IllegalStateException {
        needIndex(plan, books.planCount);
        needRange(ago, 0, today);
        if (books.customerCount >= MOST_CUSTOMERS) {
            throw new IllegalStateException("there are 8 customers");
        }
        Customer one = books.customers[books.customerCount];
        one.joined = today - ago;
        one.holdPlan(plan, one.joined);
        books.customerCount++;
        isRated = false;
        return books.customerCount - 1;
    }

    public int change(int customer, int plan) throws IndexOutOfBoundsException {
        needIndex(customer, books.customerCount);
        needIndex(plan, books.planCount);
        Customer one = books.customers[customer];
        int before = one.planOfDay[today];
        one.holdPlan(plan, today);
        isRated = false;
        return before;
    }

    public int circle(int customer, int numbers) throws IndexOutOfBoundsException, IllegalArgumentException {
        needIndex(customer, books.customerCount);
        needRange(numbers, 0, (1 << NUMBERS) - 1);
        int many = Integer.bitCount(numbers);
        needRange(many, 0, 4);
        books.customers[customer].circle = numbers;
        isRated = false;
        return many;
    }

    public int child(int customer, int parent, int limit)
            throws IndexOutOfBoundsException, IllegalArgumentException, IllegalStateException {
        needIndex(customer, books.customerCount);
        if (parent != NONE) {
            needIndex(parent, books.customerCount);
        }
        if (parent == customer) {
            throw new IllegalArgumentException("nobody is a child of its own");
        }
        needRange(limit, 0, MOST_SECONDS);
        if (parent != NONE && (books.customers[parent].parent != NONE || books.hasChild(customer))) {
            throw new IllegalStateException("a child has no children");
        }
        Customer one = books.customers[customer];
        int before = one.parent;
        one.parent = parent;
        one.limit = limit;
        isRated = false;
        return before;
    }

    public int pass(int days) throws IllegalArgumentException, IllegalStateException {
        needRange(days, 1, 120);
        if (today + days >= DAYS) {
            throw new IllegalStateException("behind the last day");
        }
        today += days;
        isRated = false;
        return today;
    }

    // ---- tickets

    public int call(int customer, int ago, int minute, int number, int zone, int seconds)
            throws IndexOutOfBoundsException, IllegalArgumentException, IllegalStateException {
        needIndex(customer, books.customerCount);
        needIndex(number, NUMBERS);
        needRange(ago, 0, today - books.customers[customer].joined);
        needCall(minute, zone, seconds);
        needRoom();
        int day = today - ago;
        if (books.log.hasCall(customer, day, minute, number)) {
            doubled++;
            return NONE;
        }
        books.log.addCall(customer, day, minute, number, zone, seconds);
        isRated = false;
        return books.log.count - 1;
    }

    public int gift(int customer, int other, int ago, int minute, int seconds)
            throws IndexOutOfBoundsException, IllegalArgumentException, IllegalStateException {
        needIndex(customer, books.customerCount);
        needIndex(other, books.customerCount);
        if (customer == other) {
            throw new IllegalArgumentException("nobody gives to itself");
        }
        int joined = Math.max(books.customers[customer].joined, books.customers[other].joined);
        needRange(ago, 0, today - joined);
        needRange(minute, 0, MINUTES - 1);
        needRange(seconds, 1, MOST_SECONDS);
        needRoom();
        Ticket added = books.log.add(GIFT, customer, today - ago, minute, seconds);
        added.other = other;
        isRated = false;
        return books.log.count - 1;
    }

    public int addOn(int customer, int ago, int minute, int seconds, int days, int price)
            throws IndexOutOfBoundsException, IllegalArgumentException, IllegalStateException {
        needIndex(customer, books.customerCount);
        needRange(ago, 0, today - books.customers[customer].joined);
        needRange(minute, 0, MINUTES - 1);
        needRange(seconds, 1, MOST_SECONDS);
        needRange(days, 1, 90);
        needRange(price, 0, 99);
        needRoom();
        Ticket added = books.log.add(ADD_ON, customer, today - ago, minute, seconds);
        added.days = days;
        added.price = price;
        isRated = false;
        return books.log.count - 1;
    }

    public int correct(int ticket, int seconds)
            throws IndexOutOfBoundsException, IllegalArgumentException, IllegalStateException {
        needIndex(ticket, books.log.count);
        needRange(seconds, 1, MOST_SECONDS);
        Ticket one = books.log.rows[ticket];
        if (!one.isLiveCall()) {
            throw new IllegalStateException("no call, or void");
        }
        int cycle = one.day / CYCLE_DAYS;
        refresh();
        int before = current.billOf(one.customer, cycle);
        one.seconds = seconds;
        isRated = false;
        refresh();
        return current.billOf(one.customer, cycle) - before;
    }

    public int undo(int ticket) throws IndexOutOfBoundsException, IllegalStateException {
        needIndex(ticket, books.log.count);
        Ticket one = books.log.rows[ticket];
        if (one.isVoid) {
            throw new IllegalStateException("void already");
        }
        refresh();
        int before = allBills();
        one.isVoid = true;
        isRated = false;
        refresh();
        return allBills() - before;
    }

    public int port(int number, int carrier, int ago)
            throws IndexOutOfBoundsException, IllegalArgumentException, IllegalStateException {
        needIndex(number, NUMBERS);
        needIndex(carrier, CARRIERS);
        needRange(ago, 0, today);
        if (carriers.portings >= MOST_PORTINGS) {
            throw new IllegalStateException("there were 20 portings");
        }
        int before = carriers.carrierOf(number, today);
        carriers.addPorting(number, carrier, today - ago);
        return before;
    }

    public int incoming(int carrier, int minutes) throws IndexOutOfBoundsException, IllegalArgumentException {
        needOtherCarrier(carrier);
        needRange(minutes, 0, 9999);
        carriers.incomingMinutes[carrier] += minutes;
        return carriers.settlementWith(carrier, books.log);
    }

    // ---- what is asked

    public int ofDay(int customer, int day, int what) throws IndexOutOfBoundsException, IllegalArgumentException {
        needIndex(customer, books.customerCount);
        needRange(day, 0, today);
        needRange(what, 0, 3);
        if (what > 0 && day < today) {
            trial.rate(day, NONE, NONE);
            return dayAnswer(trial, customer, day, what);
        }
        refresh();
        return dayAnswer(current, customer, day, what);
    }

    public int ofCycle(int customer, int cycle, int what)
            throws IndexOutOfBoundsException, IllegalArgumentException {
        needIndex(customer, books.customerCount);
        needRange(cycle, 0, CYCLES - 1);
        needRange(what, 0, 7);
        refresh();
        return cycleAnswer(customer, cycle, what);
    }

    public int ofTicket(int ticket, int what) throws IndexOutOfBoundsException, IllegalArgumentException {
        needIndex(ticket, books.log.count);
        needRange(what, 0, 10);
        refresh();
        return ticketAnswer(ticket, what);
    }

    public int carrier(int number, int day) throws IndexOutOfBoundsException, IllegalArgumentException {
        needIndex(number, NUMBERS);
        needRange(day, 0, today);
        return carriers.carrierOf(number, day);
    }

    public int settlement(int carrier) throws IndexOutOfBoundsException {
        needOtherCarrier(carrier);
        return carriers.settlementWith(carrier, books.log);
    }

    public int suspect(int customer) throws IndexOutOfBoundsException {
        needIndex(customer, books.customerCount);
        return suspicionsOf(customer);
    }

    public int house(int what) throws IllegalArgumentException {
        needRange(what, 0, 9);
        refresh();
        return houseAnswer(what);
    }

    public String line(int ticket) throws IndexOutOfBoundsException {
        needIndex(ticket, books.log.count);
        refresh();
        Ticket one = books.log.rows[ticket];
        StringBuilder text = new StringBuilder();
        text.append(one.kind == CALL ? "call " : one.kind == GIFT ? "gift " : "add-on ");
        text.append(ticket).append(" on day ").append(one.day).append(": ");
        appendSeconds(text, one, current.shares[ticket]);
        if (one.isVoid) {
            text.append(" void");
        }
        return text.toString();
    }

    // ---- what would be (nothing is changed)

    public int best(int customer, int cycle, boolean isBill)
            throws IndexOutOfBoundsException, IllegalArgumentException {
        needIndex(customer, books.customerCount);
        needRange(cycle, 0, CYCLES - 1);
        int bestPlan = NONE;
        int leastBill = NONE;
        for (int plan = 0; plan < books.planCount; plan++) {
            trial.rate(today, customer, plan);
            int bill = trial.billOf(customer, cycle);
            if (bill != NONE && (bestPlan == NONE || bill < leastBill)) {
                bestPlan = plan;
                leastBill = bill;
            }
        }
        return isBill ? leastBill : bestPlan;
    }

    public int wouldCost(int customer, int minute, int number, int zone, int seconds)
            throws IndexOutOfBoundsException, IllegalArgumentException {
        needIndex(customer, books.customerCount);
        needIndex(number, NUMBERS);
        needCall(minute, zone, seconds);
        int ticket = books.log.count;
        books.log.addCall(customer, today, minute, number, zone, seconds);
        trial.rate(today, NONE, NONE);
        books.log.removeLast();
        return trial.shares[ticket].charge;
    }

    public boolean isSound() {
        refresh();
        return allIsSound();
    }

    public long digest() {
        refresh();
        long d = 8111;
        for (int what = 0; what <= 9; what++) {
            d = mixed(d, houseAnswer(what));
        }
        for (int customer = 0; customer < books.customerCount; customer++) {
            d = mixedCustomer(d, customer);
        }
        for (int ticket = 0; ticket < books.log.count; ticket++) {
            for (int what = 5; what <= 10; what++) {
                d = mixed(d, ticketAnswer(ticket, what));
            }
        }
        for (int number = 0; number < NUMBERS; number++) {
            d = mixed(d, carriers.carrierOf(number, today));
        }
        for (int carrier = 1; carrier < CARRIERS; carrier++) {
            d = mixed(d, carriers.settlementWith(carrier, books.log));
        }
        return mixed(d, allIsSound() ? 1 : 0);
    }

    // ---- what arguments are tested for

    private static void needIndex(int index, int count) {
        if (index < 0 || index >= count) {
            throw new IndexOutOfBoundsException("there is none of this number");
        }
    }

    private static void needRange(int value, int least, int most) {
        if (value < least || value > most) {
            throw new IllegalArgumentException("out of range");
        }
    }

    private static void needOtherCarrier(int carrier) {
        if (carrier < 1 || carrier >= CARRIERS) {
            throw new IndexOutOfBoundsException("there is no such other carrier");
        }
    }

    private static void needCall(int minute, int zone, int seconds) {
        needRange(minute, 0, MINUTES - 1);
        needRange(zone, 0, 3);
        needRange(seconds, 1, MOST_SECONDS);
    }

    private void needRoom() {
        if (books.log.count >= MOST_TICKETS) {
            throw new IllegalStateException("there are 48 tickets");
        }
    }

    // ---- answers, once the current rating is fresh

    private void refresh() {
        if (!isRated) {
            current.rate(today, NONE, NONE);
            isRated = true;
        }
    }

    private int dayAnswer(Rating rating, int customer, int day, int what) {
        Purse purse = rating.purses[customer];
        switch (what) {
            case 0:
                return books.customers[customer].planOfDay[day];
            case 1:
                return purse.secondsFrom(day);
            case 2:
                return purse.bucketsFrom(day);
            default:
                return purse.secondsLapsingOn(day);
        }
    }

    private int cycleAnswer(int customer, int cycle, int what) {
        CycleSums sums = current.sumsOf(customer, cycle);
        switch (what) {
            case 0:
                return current.billOf(customer, cycle);
            case 1:
                return sums.charges;
            case 2:
                return sums.charged;
            case 3:
                return sums.own;
            case 4:
                return sums.parents;
            case 5:
                return sums.calls;
            case 6:
                return sums.free;
            default:
                return sums.addOns;
        }
    }

    private int ticketAnswer(int ticket, int what) {
        Ticket one = books.log.rows[ticket];
        Share share = current.shares[ticket];
        switch (what) {
            case 0:
                return one.kind;
            case 1:
                return one.customer;
            case 2:
                return one.day;
            case 3:
                return one.minute;
            case 4:
                return one.seconds;
            case 5:
                return one.isVoid ? 1 : 0;
            case 6:
                return share.counted;
            case 7:
                return share.own;
            case 8:
                return share.parents;
            case 9:
                return share.charge;
            default:
                return books.log.placeOf(ticket);
        }
    }

    private int houseAnswer(int what) {
        switch (what) {
            case 0:
                return today;
            case 1:
                return books.planCount;
            case 2:
                return books.customerCount;
            case 3:
                return books.log.count;
            case 4:
                return books.log.voidCount();
            case 5:
                return doubled;
            case 6:
                return allBills();
            case 7:
                return carriers.portings;
            case 8:
                return allSettlements();
            default:
                return suspectCount();
        }
    }

    private boolean allIsSound() {
        return current.isSharedOut() && current.isWithinLimits() && current.isWithinCaps() && books.hasNoGrandchild();
    }

    private int allBills() {
        int sum = 0;
        for (int customer = 0; customer < books.customerCount; customer++) {
            for (int cycle = 0; cycle <= today / CYCLE_DAYS; cycle++) {
                int bill = current.billOf(customer, cycle);
                sum += bill == NONE ? 0 : bill;
            }
        }
        return sum;
    }

    private int allSettlements() {
        int sum = 0;
        for (int carrier = 1; carrier < CARRIERS; carrier++) {
            sum += carriers.settlementWith(carrier, books.log);
        }
        return sum;
    }

    private int suspectCount() {
        int many = 0;
        for (int customer = 0; customer < books.customerCount; customer++) {
            if (suspicionsOf(customer) != 0) {
                many++;
            }
        }
        return many;
    }

    private int suspicionsOf(int customer) {
        int set = 0;
        if (books.log.hasOverlap(customer)) {
            set |= 1;
        }
        if (books.log.mostNumbersOfADay(customer) >= 5) {
            set |= 2;
        }
        if (sharesNumbers(customer)) {
            set |= 4;
        }
        return set;
    }

    private boolean sharesNumbers(int customer) {
        int numbers = books.log.numbersOf(customer);
        // Most have called too few to share three, and then nobody else's calls need to be read.
        boolean isShared = false;
        if (Integer.bitCount(numbers) >= 3) {
            for (int other = 0; other < books.customerCount; other++) {
                if (other != customer && Integer.bitCount(numbers & books.log.numbersOf(other)) >= 3) {
                    isShared = true;
                }
            }
        }
        return isShared;
    }

    private static void appendSeconds(StringBuilder text, Ticket one, Share share) {
        if (one.kind == GIFT) {
            text.append(share.own);
        } else if (one.kind == ADD_ON) {
            text.append(one.isVoid ? 0 : one.seconds);
        } else if (share.isFree) {
            text.append("free");
        } else {
            text.append(share.own).append('+').append(share.parents).append('+').append(share.charged);
        }
    }

    private static long mixed(long d, long v) {
        return d * 31 + v;
    }

    private long mixedCustomer(long d, int customer) {
        long mix = d;
        for (int what = 0; what <= 3; what++) {
            mix = mixed(mix, dayAnswer(current, customer, today, what));
        }
        for (int cycle = 0; cycle <= today / CYCLE_DAYS; cycle++) {
            for (int what = 0; what <= 7; what++) {
                mix = mixed(mix, cycleAnswer(customer, cycle, what));
            }
        }
        return mix;
    }

    /** What was told: plans, customers and tickets. All rows are made at once and used as they are needed. */
    private static final class Books {
        final Plan[] plans = new Plan[MOST_PLANS];
        final Customer[] customers = new Customer[MOST_CUSTOMERS];
        final TicketLog log = new TicketLog();
        int planCount = 0;
        int customerCount = 0;

        Books() {
            for (int p = 0; p < MOST_PLANS; p++) {
                plans[p] = new Plan();
            }
            for (int c = 0; c < MOST_CUSTOMERS; c++) {
                customers[c] = new Customer();
            }
        }

        boolean hasChild(int customer) {
            for (int c = 0; c < customerCount; c++) {
                if (customers[c].parent == customer) {
                    return true;
                }
            }
            return false;
        }

        boolean hasNoGrandchild() {
            for (int c = 0; c < customerCount; c++) {
                if (customers[c].parent != NONE && hasChild(c)) {
                    return false;
                }
            }
            return true;
        }
    }

    private static final class Plan {
        int fee = 0;
        int grant = 0;
        int keep = 0;
        int first = 60;
        int unit = 60;
        int price = 0;
        int later = 0;
        int step = 0;
        int cap = 0;
        boolean isNight = false;

        int countedOf(int seconds) {
            return seconds <= first ? first : first + unitsOf(seconds - first) * unit;
        }

        /** Prices of all units of these seconds, if so many were charged ahead of them in the cycle. */
        int pricesOf(int seconds, int chargedBefore) {
            int all = unitsOf(seconds);
            int early = chargedBefore >= step ? 0 : Math.min(all, unitsOf(step - chargedBefore));
            return early * price + (all - early) * later;
        }

        private int unitsOf(int seconds) {
            // No plan has a unit below 6; the test is for the divisor alone.
            return unit > 0 ? (seconds + unit - 1) / unit : 0;
        }
    }

    private static final class Customer {
        // A plan told later holds on to the end, so that each day's plan can be looked up.
        final int[] planOfDay = new int[DAYS];
        int joined = 0;
        int circle = 0;
        int parent = NONE;
        int limit = 0;

        Customer() {
            for (int day = 0; day < DAYS; day++) {
                planOfDay[day] = NONE;
            }
        }

        void holdPlan(int plan, int fromDay) {
            for (int day = fromDay; day < DAYS; day++) {
                planOfDay[day] = plan;
            }
        }
    }

    private static final class Ticket {
        int kind = CALL;
        int customer = 0;
        int day = 0;
        int minute = 0;
        int seconds = 0;
        int number = 0;
        int zone = 0;
        int other = 0;
        int days = 0;
        int price = 0;
        boolean isVoid = false;

        boolean isLiveCall() {
            return kind == CALL && !isVoid;
        }

        boolean isLiveCallOf(int caller) {
            return kind == CALL && !isVoid && customer == caller;
        }

        boolean isBehind(int otherDay, int otherMinute) {
            return day > otherDay || (day == otherDay && minute > otherMinute);
        }

        int startSecond() {
            return (day * MINUTES + minute) * 60;
        }
    }

    /** The tickets as they came, and their order in time. */
    private static final class TicketLog {
        // One row more than there are tickets at most, for the call that wouldCost tries.
        final Ticket[] rows = new Ticket[MOST_TICKETS + 1];
        final int[] inTime = new int[MOST_TICKETS + 1];
        int count = 0;

        TicketLog() {
            for (int t = 0; t <= MOST_TICKETS; t++) {
                rows[t] = new Ticket();
            }
        }

        void addCall(int customer, int day, int minute, int number, int zone, int seconds) {
            Ticket ticket = add(CALL, customer, day, minute, seconds);
            ticket.number = number;
            ticket.zone = zone;
        }

        /** The caller has seen to it that there is room. */
        Ticket add(int kind, int customer, int day, int minute, int seconds) {
            Ticket ticket = rows[count];
            ticket.kind = kind;
            ticket.customer = customer;
            ticket.day = day;
            ticket.minute = minute;
            ticket.seconds = seconds;
            int place = count;
            // The newest has the largest number, so it stands behind all of its own minute.
            while (place > 0 && rows[inTime[place - 1]].isBehind(day, minute)) {
                inTime[place] = inTime[place - 1];
                place--;
            }
            inTime[place] = count;
            count++;
            return ticket;
        }

        void removeLast() {
            if (count > 0) {
                count--;
                for (int place = placeOf(count); place < count; place++) {
                    inTime[place] = inTime[place + 1];
                }
            }
        }

        int placeOf(int ticket) {
            int place = 0;
            while (place < MOST_TICKETS && inTime[place] != ticket) {
                place++;
            }
            return place;
        }

        boolean hasCall(int customer, int day, int minute, int number) {
            for (int t = 0; t < count; t++) {
                Ticket one = rows[t];
                if (one.kind == CALL && one.customer == customer && one.number == number
                        && one.day == day && one.minute == minute) {
                    return true;
                }
            }
            return false;
        }

        int voidCount() {
            int many = 0;
            for (int t = 0; t < count; t++) {
                if (rows[t].isVoid) {
                    many++;
                }
            }
            return many;
        }

        boolean hasOverlap(int customer) {
            for (int t = 0; t < count; t++) {
                if (rows[t].isLiveCallOf(customer) && isOverlapped(t)) {
                    return true;
                }
            }
            return false;
        }

        private boolean isOverlapped(int ticket) {
            Ticket one = rows[ticket];
            for (int t = 0; t < count; t++) {
                if (t != ticket && rows[t].isLiveCallOf(one.customer)) {
                    int behind = rows[t].startSecond() - one.startSecond();
                    if (behind >= 0 && behind < one.seconds) {
                        return true;
                    }
                }
            }
            return false;
        }

        int mostNumbersOfADay(int customer) {
            int most = 0;
            for (int t = 0; t < count; t++) {
                if (rows[t].isLiveCallOf(customer)) {
                    most = Math.max(most, Integer.bitCount(numbersOn(customer, rows[t].day)));
                }
            }
            return most;
        }

        private int numbersOn(int customer, int day) {
            int set = 0;
            for (int t = 0; t < count; t++) {
                if (rows[t].isLiveCallOf(customer) && rows[t].day == day) {
                    set |= 1 << rows[t].number;
                }
            }
            return set;
        }

        int numbersOf(int customer) {
            int set = 0;
            for (int t = 0; t < count; t++) {
                if (rows[t].isLiveCallOf(customer)) {
                    set |= 1 << rows[t].number;
                }
            }
            return set;
        }
    }

    /** Whose numbers are, and what this house and the other carriers owe each other. */
    private static final class Carriers {
        final int[] portedNumber = new int[MOST_PORTINGS];
        final int[] portedTo = new int[MOST_PORTINGS];
        final int[] portedFrom = new int[MOST_PORTINGS];
        final int[] incomingMinutes = new int[CARRIERS];
        int portings = 0;

        /** The caller has seen to it that there is room. */
        void addPorting(int number, int carrier, int fromDay) {
            portedNumber[portings] = number;
            portedTo[portings] = carrier;
            portedFrom[portings] = fromDay;
            portings++;
        }

        int carrierOf(int number, int day) {
            // The last that was told wins, even over one that holds from a later day on.
            for (int p = portings - 1; p >= 0; p--) {
                if (portedNumber[p] == number && portedFrom[p] <= day) {
                    return portedTo[p];
                }
            }
            return number % CARRIERS;
        }

        int settlementWith(int carrier, TicketLog log) {
            int owed = -incomingMinutes[carrier];
            for (int t = 0; t < log.count; t++) {
                Ticket one = log.rows[t];
                if (one.isLiveCall() && carrierOf(one.number, one.day) == carrier) {
                    owed += (one.seconds + 59) / 60;
                }
            }
            return owed;
        }
    }

    /** How one ticket was rated. */
    private static final class Share {
        int counted = 0;
        int own = 0;
        int parents = 0;
        int charged = 0;
        int charge = 0;
        boolean isFree = false;

        void clear() {
            counted = 0;
            own = 0;
            parents = 0;
            charged = 0;
            charge = 0;
            isFree = false;
        }
    }

    /** What one customer's tickets of one cycle come to. */
    private static final class CycleSums {
        int charges = 0;
        int charged = 0;
        int own = 0;
        int parents = 0;
        int calls = 0;
        int free = 0;
        int addOns = 0;

        void clear() {
            charges = 0;
            charged = 0;
            own = 0;
            parents = 0;
            calls = 0;
            free = 0;
            addOns = 0;
        }

        void addCall(Share share) {
            charges += share.charge;
            charged += share.charged;
            own += share.own;
            parents += share.parents;
            calls++;
            free += share.isFree ? 1 : 0;
        }
    }

    /** One customer's buckets while it is rated, and what it was charged on the day that was rated last. */
    private static final class Purse {
        private static final int ROOM = CYCLES + MOST_TICKETS;

        final int[] left = new int[ROOM];
        final int[] lastDay = new int[ROOM];
        int count = 0;
        int nextGrantCycle = 0;
        int chargeDay = NONE;
        int dayCharges = 0;

        void clear(int joined) {
            count = 0;
            nextGrantCycle = joined / CYCLE_DAYS;
            chargeDay = NONE;
        }

        /** Buckets stand in the order in which they are emptied; they come in time, so behind their equals. */
        void put(int seconds, int last) {
            if (seconds > 0 && count < ROOM) {
                int place = count;
                while (place > 0 && lastDay[place - 1] > last) {
                    left[place] = left[place - 1];
                    lastDay[place] = lastDay[place - 1];
                    place--;
                }
                left[place] = seconds;
                lastDay[place] = last;
                count++;
            }
        }

        /** Takes as many seconds as there are, but no more than these; returns how many. */
        int take(int seconds, int day) {
            int taken = 0;
            for (int b = 0; b < count && taken < seconds; b++) {
                if (lastDay[b] >= day) {
                    int part = Math.min(left[b], seconds - taken);
                    left[b] -= part;
                    taken += part;
                }
            }
            return taken;
        }

        /** Charges this, or what the cap (0: none) leaves of it on that day; returns what was charged. */
        int chargeOn(int day, int full, int cap) {
            if (chargeDay != day) {
                chargeDay = day;
                dayCharges = 0;
            }
            int charge = cap == 0 ? full : Math.min(full, cap * 100 - dayCharges);
            dayCharges += charge;
            return charge;
        }

        int secondsFrom(int day) {
            int sum = 0;
            for (int b = 0; b < count; b++) {
                sum += lastDay[b] >= day ? left[b] : 0;
            }
            return sum;
        }

        int bucketsFrom(int day) {
            int many = 0;
            for (int b = 0; b < count; b++) {
                many += lastDay[b] >= day && left[b] > 0 ? 1 : 0;
            }
            return many;
        }

        int secondsLapsingOn(int day) {
            int sum = 0;
            for (int b = 0; b < count; b++) {
                sum += lastDay[b] == day ? left[b] : 0;
            }
            return sum;
        }

        boolean isNowhereBelowZero() {
            for (int b = 0; b < count; b++) {
                if (left[b] < 0) {
                    return false;
                }
            }
            return true;
        }
    }

    /** Rates all tickets in time, from the first day to a last one, perhaps with another plan for one customer. */
    private static final class Rating {
        private final Books books;
        final Purse[] purses = new Purse[MOST_CUSTOMERS];
        final Share[] shares = new Share[MOST_TICKETS + 1];
        private final CycleSums[] sums = new CycleSums[MOST_CUSTOMERS * CYCLES];
        private int triedCustomer = NONE;
        private int triedPlan = NONE;

        Rating(Books books) {
            this.books = books;
            for (int c = 0; c < MOST_CUSTOMERS; c++) {
                purses[c] = new Purse();
            }
            for (int t = 0; t <= MOST_TICKETS; t++) {
                shares[t] = new Share();
            }
            for (int s = 0; s < MOST_CUSTOMERS * CYCLES; s++) {
                sums[s] = new CycleSums();
            }
        }

        CycleSums sumsOf(int customer, int cycle) {
            return sums[customer * CYCLES + cycle];
        }

        void rate(int lastDay, int customer, int plan) {
            triedCustomer = customer;
            triedPlan = plan;
            clear();
            TicketLog log = books.log;
            for (int place = 0; place < log.count; place++) {
                int number = log.inTime[place];
                Ticket ticket = log.rows[number];
                if (ticket.day > lastDay) {
                    break;
                }
                if (!ticket.isVoid) {
                    grantUpTo(ticket.day);
                    rateTicket(ticket, shares[number]);
                }
            }
            grantUpTo(lastDay);
        }

        /** The bill, or NONE ahead of the joining's cycle. */
        int billOf(int customer, int cycle) {
            int joined = books.customers[customer].joined;
            if (cycle < joined / CYCLE_DAYS) {
                return NONE;
            }
            CycleSums sum = sumsOf(customer, cycle);
            int fee = planOf(customer, Math.max(joined, cycle * CYCLE_DAYS)).fee;
            return fee + sum.addOns + (sum.charges + 99) / 100;
        }

        private void clear() {
            for (int c = 0; c < books.customerCount; c++) {
                purses[c].clear(books.customers[c].joined);
                for (int cycle = 0; cycle < CYCLES; cycle++) {
                    sumsOf(c, cycle).clear();
                }
            }
            for (int t = 0; t < books.log.count; t++) {
                shares[t].clear();
            }
        }

        /** Of a day from the customer's joining on. */
        private Plan planOf(int customer, int day) {
            int plan = customer == triedCustomer ? triedPlan : books.customers[customer].planOfDay[day];
            // Nobody is without a plan on such a day; the test is for the index alone.
            return books.plans[Math.max(plan, 0)];
        }

        private void grantUpTo(int day) {
            int cycle = day / CYCLE_DAYS;
            for (int c = 0; c < books.customerCount; c++) {
                Purse purse = purses[c];
                if (day >= books.customers[c].joined && purse.nextGrantCycle <= cycle) {
                    for (int k = purse.nextGrantCycle; k <= cycle; k++) {
                        grantOf(c, k);
                    }
                    purse.nextGrantCycle = cycle + 1;
                }
            }
        }

        private void grantOf(int customer, int cycle) {
            int day = Math.max(books.customers[customer].joined, cycle * CYCLE_DAYS);
            Plan plan = planOf(customer, day);
            int daysLeft = (cycle + 1) * CYCLE_DAYS - day;
            purses[customer].put(plan.grant * daysLeft / CYCLE_DAYS, lastDayOf(cycle + plan.keep));
        }

        private static int lastDayOf(int cycle) {
            return cycle * CYCLE_DAYS + CYCLE_DAYS - 1;
        }

        private void rateTicket(Ticket ticket, Share share) {
            CycleSums sum = sumsOf(ticket.customer, ticket.day / CYCLE_DAYS);
            if (ticket.kind == CALL) {
                rateCall(ticket, share, sum);
            } else if (ticket.kind == GIFT) {
                share.own = purses[ticket.customer].take(ticket.seconds, ticket.day);
                purses[ticket.other].put(share.own, lastDayOf(ticket.day / CYCLE_DAYS));
            } else {
                purses[ticket.customer].put(ticket.seconds, ticket.day + ticket.days - 1);
                sum.addOns += ticket.price;
            }
        }

        private void rateCall(Ticket ticket, Share share, CycleSums sum) {
            Plan plan = planOf(ticket.customer, ticket.day);
            share.isFree = isFree(ticket, plan);
            if (!share.isFree) {
                Purse purse = purses[ticket.customer];
                share.counted = plan.countedOf(ticket.seconds);
                share.own = purse.take(share.counted, ticket.day);
                share.parents = takeFromParent(ticket, share.counted - share.own, sum.parents);
                share.charged = share.counted - share.own - share.parents;
                int full = plan.pricesOf(share.charged, sum.charged) * (100 + 25 * ticket.zone);
                share.charge = purse.chargeOn(ticket.day, full, plan.cap);
            }
            sum.addCall(share);
        }

        private boolean isFree(Ticket ticket, Plan plan) {
            boolean isInCircle = (books.customers[ticket.customer].circle >> ticket.number & 1) == 1;
            return isInCircle || (plan.isNight && (ticket.minute >= 1320 || ticket.minute < 360));
        }

        private int takeFromParent(Ticket ticket, int seconds, int takenInCycle) {
            Customer one = books.customers[ticket.customer];
            if (one.parent == NONE) {
                return 0;
            }
            return purses[one.parent].take(Math.min(seconds, one.limit - takenInCycle), ticket.day);
        }

        /** Whether no bucket is below 0, and each call's counted seconds are its shares together. */
        boolean isSharedOut() {
            for (int c = 0; c < books.customerCount; c++) {
                if (!purses[c].isNowhereBelowZero()) {
                    return false;
                }
            }
            for (int t = 0; t < books.log.count; t++) {
                Share share = shares[t];
                if (books.log.rows[t].isLiveCall() && !share.isFree
                        && share.counted != share.own + share.parents + share.charged) {
                    return false;
                }
            }
            return true;
        }

        boolean isWithinLimits() {
            for (int c = 0; c < books.customerCount; c++) {
                Customer one = books.customers[c];
                for (int cycle = 0; cycle < CYCLES; cycle++) {
                    if (one.parent != NONE && sumsOf(c, cycle).parents > one.limit) {
                        return false;
                    }
                }
            }
            return true;
        }

        boolean isWithinCaps() {
            for (int t = 0; t < books.log.count; t++) {
                Ticket one = books.log.rows[t];
                if (one.isLiveCall()) {
                    int cap = planOf(one.customer, one.day).cap;
                    if (cap > 0 && chargesOn(one.customer, one.day) > cap * 100) {
                        return false;
                    }
                }
            }
            return true;
        }

        private int chargesOn(int customer, int day) {
            int charges = 0;
            for (int t = 0; t < books.log.count; t++) {
                Ticket one = books.log.rows[t];
                if (one.isLiveCallOf(customer) && one.day == day) {
                    charges += shares[t].charge;
                }
            }
            return charges;
        }
    }
}
