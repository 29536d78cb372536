import java.util.ArrayList;
import java.util.HashSet;
import java.util.List;
import java.util.Set;

/**
 * The document once more, in its slowest form: each question replays every day and minute, takes second by
 * second where it can, and keeps nothing. FuzzTests holds Rollover against it.
 */
final class NaiveHouse {
    static final class Plan {
        int fee, grant, price, later, keep, first = 60, unit = 60, step, cap;
        boolean night;
    }

    static final class Customer {
        int joined, circle, parent = -1, limit;
        final List<int[]> told = new ArrayList<>(); // {day, plan}
    }

    static final class Ticket {
        int kind, customer, day, minute, seconds, number, zone, other, days, price;
        boolean isVoid;
    }

    static final class Bucket {
        int left, last;
    }

    /** What a replay finds. */
    static final class Replay {
        final List<List<Bucket>> buckets = new ArrayList<>();
        int[] counted, own, parents, charged, charge;
        boolean[] free;
    }

    final List<Plan> plans = new ArrayList<>();
    final List<Customer> customers = new ArrayList<>();
    final List<Ticket> tickets = new ArrayList<>();
    final List<int[]> portings = new ArrayList<>();
    final int[] in = new int[4];
    int today, doubled;

    static void index(boolean ok) {
        if (!ok) throw new IndexOutOfBoundsException();
    }

    static void argument(boolean ok) {
        if (!ok) throw new IllegalArgumentException();
    }

    static void state(boolean ok) {
        if (!ok) throw new IllegalStateException();
    }

    static boolean within(long v, long least, long most) {
        return v >= least && v <= most;
    }

    int plan(int fee, int grant, int price) {
        argument(within(fee, 0, 99) && within(price, 0, 99) && within(grant, 0, 9999));
        state(plans.size() < 5);
        Plan p = new Plan();
        p.fee = fee;
        p.grant = grant;
        p.price = price;
        p.later = price;
        plans.add(p);
        return plans.size() - 1;
    }

    int units(int plan, int keep, int first, int unit, boolean night) {
        index(within(plan, 0, plans.size() - 1));
        argument(within(keep, 0, 3) && within(first, 1, 120) && within(unit, 6, 120));
        Plan p = plans.get(plan);
        int before = p.unit;
        p.keep = keep;
        p.first = first;
        p.unit = unit;
        p.night = night;
        return before;
    }

    int steps(int plan, int step, int later, int cap) {
        index(within(plan, 0, plans.size() - 1));
        argument(within(step, 0, 9999) && within(later, 0, 99) && within(cap, 0, 999));
        Plan p = plans.get(plan);
        int before = p.cap;
        p.step = step;
        p.later = later;
        p.cap = cap;
        return before;
    }

    int join(int plan, int ago) {
        index(within(plan, 0, plans.size() - 1));
        argument(within(ago, 0, today));
        state(customers.size() < 8);
        Customer c = new Customer();
        c.joined = today - ago;
        c.told.add(new int[] {c.joined, plan});
        customers.add(c);
        return customers.size() - 1;
    }

    int planOn(int customer, int day) {
        int plan = -1;
        for (int[] t : customers.get(customer).told) if (t[0] <= day) plan = t[1];
        return plan;
    }

    int change(int customer, int plan) {
        index(within(customer, 0, customers.size() - 1) && within(plan, 0, plans.size() - 1));
        int before = planOn(customer, today);
        customers.get(customer).told.add(new int[] {today, plan});
        return before;
    }

    int circle(int customer, int numbers) {
        index(within(customer, 0, customers.size() - 1));
        argument(within(numbers, 0, 65535) && Integer.bitCount(numbers) <= 4);
        customers.get(customer).circle = numbers;
        return Integer.bitCount(numbers);
    }

    int child(int customer, int parent, int limit) {
        index(within(customer, 0, customers.size() - 1) && within(parent, -1, customers.size() - 1));
        argument(customer != parent && within(limit, 0, 9999));
        if (parent != -1) {
            state(customers.get(parent).parent == -1);
            for (Customer c : customers) state(c.parent != customer);
        }
        Customer c = customers.get(customer);
        int before = c.parent;
        c.parent = parent;
        c.limit = limit;
        return before;
    }

    int pass(int days) {
        argument(within(days, 1, 120));
        state(today + days <= 359);
        today += days;
        return today;
    }

    int call(int customer, int ago, int minute, int number, int zone, int seconds) {
        index(within(customer, 0, customers.size() - 1) && within(number, 0, 15));
        argument(within((long) today - ago, customers.get(customer).joined, today) && within(minute, 0, 1439)
                && within(zone, 0, 3) && within(seconds, 1, 9999));
        state(tickets.size() < 48);
        for (Ticket t : tickets) {
            if (t.kind == 0 && t.customer == customer && t.day == today - ago && t.minute == minute
                    && t.number == number) {
                doubled++;
                return -1;
            }
        }
        tickets.add(newCall(customer, today - ago, minute, number, zone, seconds));
        return tickets.size() - 1;
    }

    static Ticket newCall(int customer, int day, int minute, int number, int zone, int seconds) {
        Ticket t = new Ticket();
        t.customer = customer;
        t.day = day;
        t.minute = minute;
        t.number = number;
        t.zone = zone;
        t.seconds = seconds;
        return t;
    }

    int gift(int customer, int other, int ago, int minute, int seconds) {
        index(within(customer, 0, customers.size() - 1) && within(other, 0, customers.size() - 1));
        long day = (long) today - ago;
        argument(customer != other && within(day, customers.get(customer).joined, today)
                && within(day, customers.get(other).joined, today)
                && within(minute, 0, 1439) && within(seconds, 1, 9999));
        state(tickets.size() < 48);
        Ticket t = newCall(customer, (int) day, minute, -1, 0, seconds);
        t.kind = 1;
        t.other = other;
        tickets.add(t);
        return tickets.size() - 1;
    }

    int addOn(int customer, int ago, int minute, int seconds, int days, int price) {
        index(within(customer, 0, customers.size() - 1));
        argument(within((long) today - ago, customers.get(customer).joined, today) && within(minute, 0, 1439)
                && within(seconds, 1, 9999) && within(days, 1, 90) && within(price, 0, 99));
        state(tickets.size() < 48);
        Ticket t = newCall(customer, today - ago, minute, -1, 0, seconds);
        t.kind = 2;
        t.days = days;
        t.price = price;
        tickets.add(t);
        return tickets.size() - 1;
    }

    int correct(int ticket, int seconds) {
        index(within(ticket, 0, tickets.size() - 1));
        argument(within(seconds, 1, 9999));
        Ticket t = tickets.get(ticket);
        state(t.kind == 0 && !t.isVoid);
        int before = bill(replay(today, -1, -1), t.customer, t.day / 30, -1);
        t.seconds = seconds;
        return bill(replay(today, -1, -1), t.customer, t.day / 30, -1) - before;
    }

    int undo(int ticket) {
        index(within(ticket, 0, tickets.size() - 1));
        state(!tickets.get(ticket).isVoid);
        int before = house(6);
        tickets.get(ticket).isVoid = true;
        return house(6) - before;
    }

    int port(int number, int carrier, int ago) {
        index(within(number, 0, 15) && within(carrier, 0, 3));
        argument(within(ago, 0, today));
        state(portings.size() < 20);
        int before = carrier(number, today);
        portings.add(new int[] {number, carrier, today - ago});
        return before;
    }

    int incoming(int carrier, int minutes) {
        index(within(carrier, 1, 3));
        argument(within(minutes, 0, 9999));
        in[carrier] += minutes;
        return settlement(carrier);
    }

    /** Replays all up to the end of a day; one customer may be tried with another plan. */
    Replay replay(int until, int tried, int plan) {
        int n = tickets.size();
        Replay r = new Replay();
        r.counted = new int[n];
        r.own = new int[n];
        r.parents = new int[n];
        r.charged = new int[n];
        r.charge = new int[n];
        r.free = new boolean[n];
        for (int c = 0; c < customers.size(); c++) r.buckets.add(new ArrayList<>());
        List<Integer> order = inTime();
        for (int day = 0; day <= until; day++) {
            for (int c = 0; c < customers.size(); c++) {
                int joined = customers.get(c).joined;
                if (day == joined || (day > joined && day % 30 == 0)) {
                    Plan p = plans.get(c == tried ? plan : planOn(c, day));
                    int lastOfCycle = day;
                    while (lastOfCycle % 30 != 29) lastOfCycle++;
                    int daysLeft = lastOfCycle - day + 1;
                    put(r.buckets.get(c), p.grant * daysLeft / 30, lastOfCycle + 30 * p.keep);
                }
            }
            for (int k : order) {
                if (tickets.get(k).day == day && !tickets.get(k).isVoid) rate(r, k, tried, plan);
            }
        }
        return r;
    }

    List<Integer> inTime() {
        List<Integer> order = new ArrayList<>();
        for (int k = 0; k < tickets.size(); k++) order.add(k);
        order.sort((a, b) -> {
            Ticket x = tickets.get(a), y = tickets.get(b);
            if (x.day != y.day) return x.day - y.day;
            if (x.minute != y.minute) return x.minute - y.minute;
            return a - b;
        });
        return order;
    }

    static void put(List<Bucket> buckets, int seconds, int last) {
        Bucket b = new Bucket();
        b.left = seconds;
        b.last = last;
        buckets.add(b);
    }

    static int take(List<Bucket> buckets, int seconds, int day) {
        int taken = 0;
        while (taken < seconds) {
            Bucket from = null;
            for (Bucket b : buckets) {
                if (b.left > 0 && b.last >= day && (from == null || b.last < from.last)) from = b;
            }
            if (from == null) break;
            int part = Math.min(from.left, seconds - taken);
            from.left -= part;
            taken += part;
        }
        return taken;
    }

    void rate(Replay r, int k, int tried, int triedPlan) {
        Ticket t = tickets.get(k);
        if (t.kind == 2) {
            put(r.buckets.get(t.customer), t.seconds, t.day + t.days - 1);
            return;
        }
        if (t.kind == 1) {
            r.own[k] = take(r.buckets.get(t.customer), t.seconds, t.day);
            if (r.own[k] > 0) put(r.buckets.get(t.other), r.own[k], t.day / 30 * 30 + 29);
            return;
        }
        Customer c = customers.get(t.customer);
        Plan p = plans.get(t.customer == tried ? triedPlan : planOn(t.customer, t.day));
        r.free[k] = (c.circle & 1 << t.number) != 0 || p.night && !(t.minute >= 360 && t.minute < 1320);
        if (r.free[k]) return;
        int counted = p.first;
        while (counted < t.seconds) counted += p.unit;
        r.counted[k] = counted;
        r.own[k] = take(r.buckets.get(t.customer), counted, t.day);
        int chargedBefore = 0, parentsBefore = 0, chargesOfDay = 0;
        for (int j = 0; j < tickets.size(); j++) {
            Ticket o = tickets.get(j);
            if (j == k || o.customer != t.customer || o.kind != 0) continue;
            if (o.day / 30 == t.day / 30) {
                chargedBefore += r.charged[j];
                parentsBefore += r.parents[j];
            }
            if (o.day == t.day) chargesOfDay += r.charge[j];
        }
        if (c.parent != -1) {
            int most = Math.min(counted - r.own[k], c.limit - parentsBefore);
            r.parents[k] = take(r.buckets.get(c.parent), most, t.day);
        }
        r.charged[k] = counted - r.own[k] - r.parents[k];
        long sum = 0;
        for (int done = 0; done < r.charged[k]; done += p.unit) {
            sum += chargedBefore + done >= p.step ? p.later : p.price;
        }
        sum *= 100 + 25 * t.zone;
        if (p.cap > 0 && sum + chargesOfDay > p.cap * 100) sum = p.cap * 100 - chargesOfDay;
        r.charge[k] = (int) sum;
    }

    int bill(Replay r, int customer, int cycle, int triedPlan) {
        int joined = customers.get(customer).joined;
        if (joined > 30 * cycle + 29) return -1;
        int first = joined / 30 == cycle ? joined : 30 * cycle;
        int charges = 0, prices = 0;
        for (int k = 0; k < tickets.size(); k++) {
            Ticket t = tickets.get(k);
            if (t.customer == customer && t.day / 30 == cycle && !t.isVoid) {
                charges += r.charge[k];
                prices += t.kind == 2 ? t.price : 0;
            }
        }
        int whole = charges / 100;
        if (whole * 100 < charges) whole++;
        return plans.get(triedPlan >= 0 ? triedPlan : planOn(customer, first)).fee + prices + whole;
    }

    int ofDay(int customer, int day, int what) {
        index(within(customer, 0, customers.size() - 1));
        argument(within(day, 0, today) && within(what, 0, 3));
        if (what == 0) return planOn(customer, day);
        int sum = 0;
        for (Bucket b : replay(day, -1, -1).buckets.get(customer)) {
            if (b.last >= day && what == 1) sum += b.left;
            if (b.last >= day && what == 2 && b.left > 0) sum++;
            if (b.last == day && what == 3) sum += b.left;
        }
        return sum;
    }

    int ofCycle(int customer, int cycle, int what) {
        index(within(customer, 0, customers.size() - 1));
        argument(within(cycle, 0, 11) && within(what, 0, 7));
        Replay r = replay(today, -1, -1);
        if (what == 0) return bill(r, customer, cycle, -1);
        int sum = 0;
        for (int k = 0; k < tickets.size(); k++) {
            Ticket t = tickets.get(k);
            if (t.customer != customer || t.day / 30 != cycle || t.isVoid) continue;
            if (what == 7 && t.kind == 2) sum += t.price;
            if (t.kind != 0) continue;
            if (what == 1) sum += r.charge[k];
            if (what == 2) sum += r.charged[k];
            if (what == 3) sum += r.own[k];
            if (what == 4) sum += r.parents[k];
            if (what == 5) sum++;
            if (what == 6 && r.free[k]) sum++;
        }
        return sum;
    }

    int ofTicket(int ticket, int what) {
        index(within(ticket, 0, tickets.size() - 1));
        argument(within(what, 0, 10));
        Ticket t = tickets.get(ticket);
        Replay r = replay(today, -1, -1);
        int[] answers = {t.kind, t.customer, t.day, t.minute, t.seconds, t.isVoid ? 1 : 0, r.counted[ticket],
            r.own[ticket], r.parents[ticket], r.charge[ticket], inTime().indexOf(ticket)};
        return answers[what];
    }

    int carrier(int number, int day) {
        index(within(number, 0, 15));
        argument(within(day, 0, today));
        int carrier = number % 4;
        for (int[] p : portings) if (p[0] == number && p[2] <= day) carrier = p[1];
        return carrier;
    }

    int settlement(int carrier) {
        index(within(carrier, 1, 3));
        int sum = -in[carrier];
        for (Ticket t : tickets) {
            if (t.kind == 0 && !t.isVoid && carrier(t.number, t.day) == carrier) {
                for (int s = 0; s < t.seconds; s += 60) sum++;
            }
        }
        return sum;
    }

    List<Ticket> callsOf(int customer) {
        List<Ticket> calls = new ArrayList<>();
        for (Ticket t : tickets) if (t.kind == 0 && !t.isVoid && t.customer == customer) calls.add(t);
        return calls;
    }

    int suspect(int customer) {
        index(within(customer, 0, customers.size() - 1));
        int set = 0;
        List<Ticket> calls = callsOf(customer);
        for (Ticket a : calls) {
            for (Ticket b : calls) {
                int later = ((b.day - a.day) * 1440 + b.minute - a.minute) * 60;
                if (a != b && later >= 0 && later < a.seconds) set |= 1;
            }
        }
        for (int day = 0; day <= today; day++) {
            Set<Integer> numbers = new HashSet<>();
            for (Ticket t : calls) if (t.day == day) numbers.add(t.number);
            if (numbers.size() >= 5) set |= 2;
        }
        for (int other = 0; other < customers.size(); other++) {
            if (other == customer) continue;
            Set<Integer> mine = new HashSet<>(), others = new HashSet<>();
            for (Ticket t : calls) mine.add(t.number);
            for (Ticket t : callsOf(other)) others.add(t.number);
            mine.retainAll(others);
            if (mine.size() >= 3) set |= 4;
        }
        return set;
    }

    int house(int what) {
        argument(within(what, 0, 9));
        if (what == 0) return today;
        if (what == 1) return plans.size();
        if (what == 2) return customers.size();
        if (what == 3) return tickets.size();
        if (what == 5) return doubled;
        if (what == 7) return portings.size();
        int sum = 0;
        if (what == 4) for (Ticket t : tickets) sum += t.isVoid ? 1 : 0;
        if (what == 8) for (int c = 1; c <= 3; c++) sum += settlement(c);
        if (what == 9) for (int c = 0; c < customers.size(); c++) sum += suspect(c) == 0 ? 0 : 1;
        if (what == 6) {
            Replay r = replay(today, -1, -1);
            for (int c = 0; c < customers.size(); c++) {
                for (int k = 0; 30 * k <= today; k++) sum += Math.max(0, bill(r, c, k, -1));
            }
        }
        return sum;
    }

    String line(int ticket) {
        index(within(ticket, 0, tickets.size() - 1));
        Ticket t = tickets.get(ticket);
        Replay r = replay(today, -1, -1);
        String head = (t.kind == 0 ? "call " : t.kind == 1 ? "gift " : "add-on ") + ticket + " on day " + t.day + ": ";
        if (t.isVoid) return head + (t.kind == 0 ? "0+0+0" : "0") + " void";
        if (t.kind == 1) return head + r.own[ticket];
        if (t.kind == 2) return head + t.seconds;
        return head + (r.free[ticket] ? "free"
                : r.own[ticket] + "+" + r.parents[ticket] + "+" + r.charged[ticket]);
    }

    int best(int customer, int cycle, boolean isBill) {
        index(within(customer, 0, customers.size() - 1));
        argument(within(cycle, 0, 11));
        int best = -1, least = -1;
        for (int p = plans.size() - 1; p >= 0; p--) {
            int bill = bill(replay(today, customer, p), customer, cycle, p);
            if (bill == -1) return -1;
            if (best == -1 || bill <= least) {
                best = p;
                least = bill;
            }
        }
        return isBill ? least : best;
    }

    int wouldCost(int customer, int minute, int number, int zone, int seconds) {
        index(within(customer, 0, customers.size() - 1) && within(number, 0, 15));
        argument(within(minute, 0, 1439) && within(zone, 0, 3) && within(seconds, 1, 9999));
        tickets.add(newCall(customer, today, minute, number, zone, seconds));
        int cost = replay(today, -1, -1).charge[tickets.size() - 1];
        tickets.remove(tickets.size() - 1);
        return cost;
    }

    long digest() {
        long d = 8111;
        for (int w = 0; w < 10; w++) d = d * 31 + house(w);
        for (int c = 0; c < customers.size(); c++) {
            for (int w = 0; w < 4; w++) d = d * 31 + ofDay(c, today, w);
            for (int k = 0; k <= today / 30; k++) for (int w = 0; w < 8; w++) d = d * 31 + ofCycle(c, k, w);
        }
        for (int t = 0; t < tickets.size(); t++) for (int w = 5; w <= 10; w++) d = d * 31 + ofTicket(t, w);
        for (int n = 0; n < 16; n++) d = d * 31 + carrier(n, today);
        for (int c = 1; c < 4; c++) d = d * 31 + settlement(c);
        return d * 31 + 1;
    }
}
