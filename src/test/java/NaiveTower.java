import java.math.BigInteger;
import java.util.ArrayDeque;
import java.util.ArrayList;
import java.util.List;

/** The document written down as naively as can be, to hold Claimtower against: nothing is kept, all is gone through. */
final class NaiveTower {
    private static final int[] LEAST = {0, 0, 0, 0, 0, 0, 0, 0, 0, 0, 1, 1, 0, 0};
    private static final int[] GREATEST = {2, 99999, 99999, 99999, 99999, 99999, 99999, 99999, 99999, 1459, 99999, 99999, 30, 99999};

    private static final class Loss {
        int day;
        int place;
        int kind;
        int back;
        List<int[]> reports = new ArrayList<>();

        Loss copy() {
            Loss c = new Loss();
            c.day = day;
            c.place = place;
            c.kind = kind;
            c.back = back;
            c.reports = new ArrayList<>(reports);
            return c;
        }

        long at(int day) {
            long sum = 0;
            for (int[] r : reports) {
                if (r[0] <= day) {
                    sum = r[1];
                }
            }
            return sum;
        }
    }

    private static final class Told {
        List<Loss> losses = new ArrayList<>();
        int[] policy = {0, 0, 0, 0, 99999, 99999, 99999, 99999, 99999, 0, 1, 1, 3, 0};
        int today = 1459;
        int rule = 0;
        int way = 0;
        List<Integer> sums = new ArrayList<>(List.of(99999));
        List<Boolean> failed = new ArrayList<>(List.of(false));
        /** Kind, then percent, or from, wide, again, price. */
        List<int[]> contracts = new ArrayList<>();

        Told copy() {
            Told c = new Told();
            c.losses = new ArrayList<>();
            for (Loss l : losses) {
                c.losses.add(l.copy());
            }
            c.policy = policy.clone();
            c.today = today;
            c.rule = rule;
            c.way = way;
            c.sums = new ArrayList<>(sums);
            c.failed = new ArrayList<>(failed);
            c.contracts = new ArrayList<>(contracts);
            return c;
        }
    }

    private static final class Event {
        List<Integer> losses = new ArrayList<>();
        long gross;
        long paid;
        long kept;
        long off;
        long owed;
        long whole;
        long recovered;
        long due;
        long net;
        int place;
        long[] parts;
        long[] takes;
    }

    private Told t = new Told();
    private ArrayDeque<Told> past = new ArrayDeque<>();
    private int knocks = 0;

    // ---- checks

    private static void index(boolean is) {
        if (!is) {
            throw new IndexOutOfBoundsException();
        }
    }

    private static void argument(boolean is) {
        if (!is) {
            throw new IllegalArgumentException();
        }
    }

    private static void state(boolean is) {
        if (!is) {
            throw new IllegalStateException();
        }
    }

    private static boolean in(int n, int a, int b) {
        return a <= n && n <= b;
    }

    private void done() {
        past.push(t);
        if (past.size() > 12) {
            past.removeLast();
        }
        t = t.copy();
    }

    // ---- what is told

    int loss(int day, int place, int kind, int sum, int known) {
        argument(in(day, 0, 1459) && in(known, 0, 1459) && in(place, 0, 2) && in(kind, 0, 2) && in(sum, 0, 99999));
        state(t.losses.size() < 12);
        if (known < day) {
            return -8;
        }
        done();
        t.losses.add(made(day, place, kind, sum, known));
        return t.losses.size() - 1;
    }

    private static Loss made(int day, int place, int kind, int sum, int known) {
        Loss l = new Loss();
        l.day = day;
        l.place = place;
        l.kind = kind;
        l.reports.add(new int[] {known, sum});
        return l;
    }

    int report(int loss, int known, int sum) {
        index(in(loss, 0, t.losses.size() - 1));
        argument(in(known, 0, 1459) && in(sum, 0, 99999));
        List<int[]> r = t.losses.get(loss).reports;
        if (known <= r.get(r.size() - 1)[0]) {
            return -8;
        }
        done();
        t.losses.get(loss).reports.add(new int[] {known, sum});
        return t.losses.get(loss).reports.size();
    }

    int unreport(int loss) {
        index(in(loss, 0, t.losses.size() - 1));
        if (t.losses.get(loss).reports.size() == 1) {
            return -9;
        }
        done();
        List<int[]> r = t.losses.get(loss).reports;
        r.remove(r.size() - 1);
        return r.size();
    }

    int recover(int loss, int sum) {
        index(in(loss, 0, t.losses.size() - 1));
        argument(in(sum, 0, 99999));
        done();
        int before = t.losses.get(loss).back;
        t.losses.get(loss).back = sum;
        return before;
    }

    int today(int day) {
        argument(in(day, 0, 1459));
        done();
        int before = t.today;
        t.today = day;
        return before;
    }

    int policy(int what, int number) {
        index(in(what, 0, 13));
        argument(in(number, LEAST[what], GREATEST[what]));
        done();
        int before = t.policy[what];
        t.policy[what] = number;
        return before;
    }

    int rule(int rule) {
        argument(in(rule, 0, 2));
        done();
        int before = t.rule;
        t.rule = rule;
        return before;
    }

    int insurer(int sum) {
        argument(in(sum, 1, 99999));
        state(t.sums.size() < 4);
        done();
        t.sums.add(sum);
        t.failed.add(false);
        return t.sums.size();
    }

    int sum(int insurer, int sum) {
        index(in(insurer, 0, t.sums.size() - 1));
        argument(in(sum, 1, 99999));
        done();
        return t.sums.set(insurer, sum);
    }

    int way(int way) {
        argument(in(way, 0, 3));
        done();
        int before = t.way;
        t.way = way;
        return before;
    }

    int fail(int insurer, boolean is) {
        index(in(insurer, 0, t.sums.size() - 1));
        done();
        return t.failed.set(insurer, is) ? 1 : 0;
    }

    private int signed(int... contract) {
        done();
        t.contracts.add(contract);
        return t.contracts.size() - 1;
    }

    int share(int percent) {
        argument(in(percent, 1, 99));
        state(t.contracts.size() < 6);
        return signed(0, percent);
    }

    int layer(int from, int wide, int again, int price) {
        argument(in(from, 0, 99999) && in(wide, 1, 99999) && in(again, 0, 9) && in(price, 0, 999));
        state(t.contracts.size() < 6);
        for (int i = t.contracts.size() - 1; i >= 0 && t.contracts.get(i)[0] == 1; i--) {
            int[] c = t.contracts.get(i);
            if (Math.max(c[1], from) < Math.min(c[1] + c[2], from + wide)) {
                return -8;
            }
        }
        return signed(1, from, wide, again, price);
    }

    int stop(int from, int wide) {
        argument(in(from, 0, 99999) && in(wide, 1, 99999));
        state(t.contracts.size() < 6);
        return signed(2, from, wide);
    }

    int unsign() {
        if (t.contracts.isEmpty()) {
            return -9;
        }
        done();
        t.contracts.remove(t.contracts.size() - 1);
        return t.contracts.size();
    }

    int undo() {
        state(!past.isEmpty());
        t = past.pop();
        return past.size();
    }

    // ---- events

    private long covered(Loss l) {
        if (l.day < t.policy[9]) {
            return 0;
        }
        return t.policy[10] >= t.policy[11] ? l.at(t.today) : l.at(t.today) * t.policy[10] / t.policy[11];
    }

    private List<Integer> inOrder(int year, int place) {
        List<Integer> found = new ArrayList<>();
        for (int day = year * 365; day < year * 365 + 365; day++) {
            for (int i = 0; i < t.losses.size(); i++) {
                Loss l = t.losses.get(i);
                if (l.day == day && covered(l) > 0 && (place == -1 || l.place == place)) {
                    found.add(i);
                }
            }
        }
        return found;
    }

    private List<List<List<Integer>>> allPartings(int year, int place) {
        List<Integer> order = inOrder(year, place);
        List<List<List<Integer>>> all = new ArrayList<>();
        int cuts = order.isEmpty() ? 0 : order.size() - 1;
        for (int set = 0; set < 1 << cuts; set++) {
            List<List<Integer>> parting = new ArrayList<>();
            for (int i = 0; i < order.size(); i++) {
                if (i == 0 || (set >> (i - 1) & 1) == 1) {
                    parting.add(new ArrayList<>());
                }
                parting.get(parting.size() - 1).add(order.get(i));
            }
            boolean is = true;
            for (List<Integer> e : parting) {
                int span = t.losses.get(e.get(e.size() - 1)).day - t.losses.get(e.get(0)).day;
                is = is && span <= t.policy[12];
            }
            if (is) {
                all.add(parting);
            }
        }
        return all;
    }

    private long gross(List<Integer> event) {
        long g = 0;
        for (int i : event) {
            g += covered(t.losses.get(i));
        }
        return g;
    }

    private long paid(long gross) {
        long own = Math.min(t.policy[1], gross);
        if (t.policy[0] == 1) {
            long hundredths = gross * t.policy[1];
            own = Math.min(gross, hundredths / 100 + (hundredths % 100 > 0 ? 1 : 0));
        }
        if (t.policy[0] == 2 && gross > t.policy[2]) {
            own = 0;
        }
        return Math.min(gross - own, t.policy[4]);
    }

    private long paidOf(List<List<Integer>> parting) {
        long p = 0;
        for (List<Integer> e : parting) {
            p += paid(gross(e));
        }
        return p;
    }

    private List<List<Integer>> held(int year, int place) {
        List<List<Integer>> best = null;
        for (List<List<Integer>> one : allPartings(year, place)) {
            if (best == null || isBetter(one, best)) {
                best = one;
            }
        }
        return best;
    }

    private boolean isBetter(List<List<Integer>> one, List<List<Integer>> other) {
        if (paidOf(one) != paidOf(other)) {
            return paidOf(one) > paidOf(other);
        }
        if (one.size() != other.size()) {
            return one.size() < other.size();
        }
        for (int i = 0; i < one.size(); i++) {
            if (one.get(i).size() != other.get(i).size()) {
                return one.get(i).size() > other.get(i).size();
            }
        }
        return false;
    }

    private List<Event> worked(int year) {
        List<Event> events = new ArrayList<>();
        List<List<List<Integer>>> held = List.of(held(year, 0), held(year, 1), held(year, 2));
        for (int first : inOrder(year, -1)) {
            for (int place = 0; place < 3; place++) {
                for (List<Integer> losses : held.get(place)) {
                    if (losses.get(0) == first) {
                        Event e = new Event();
                        e.losses = losses;
                        e.place = place;
                        events.add(e);
                    }
                }
            }
        }
        long[] kinds = {t.policy[5], t.policy[6], t.policy[7]};
        long own = t.policy[3];
        long bound = t.policy[8];
        long[] used = new long[6];
        long[] stopped = new long[6];
        for (Event e : events) {
            e.gross = gross(e.losses);
            e.paid = paid(e.gross);
            int kind = t.losses.get(e.losses.get(0)).kind;
            e.kept = Math.min(e.paid, kinds[kind]);
            kinds[kind] -= e.kept;
            e.off = Math.min(e.kept, own);
            own -= e.off;
            e.owed = Math.min(e.kept - e.off, bound);
            bound -= e.owed;
            for (int i : e.losses) {
                Loss l = t.losses.get(i);
                e.whole += l.at(t.today);
                e.recovered += Math.min(l.back, l.at(t.today));
            }
            e.due = e.owed - insurersGet(e);
            share(e);
            cede(e, used, stopped);
        }
        return events;
    }

    private long insurersGet(Event e) {
        if (t.rule == 0) {
            return e.recovered > e.whole - e.owed ? e.recovered - (e.whole - e.owed) : 0;
        }
        if (t.rule == 1) {
            return e.recovered >= e.owed ? e.owed : e.recovered;
        }
        return split(e.recovered, new long[] {e.whole - e.owed, e.owed})[1];
    }

    private static long[] split(long amount, long[] weights) {
        long sum = 0;
        for (long w : weights) {
            sum += w;
        }
        long[] gets = new long[weights.length];
        boolean[] hasOneMore = new boolean[weights.length];
        long left = amount;
        for (int i = 0; i < weights.length; i++) {
            gets[i] = amount * weights[i] / sum;
            left -= gets[i];
        }
        while (left > 0) {
            int best = -1;
            for (int i = 0; i < weights.length; i++) {
                boolean isMore = best == -1 || amount * weights[i] % sum > amount * weights[best] % sum;
                if (!hasOneMore[i] && isMore) {
                    best = i;
                }
            }
            hasOneMore[best] = true;
            gets[best]++;
            left--;
        }
        return gets;
    }

    private static void spread(long amount, long[] parts, long[] bounds) {
        long left = amount;
        boolean isOpen = true;
        long[] got = new long[parts.length];
        while (left > 0 && isOpen) {
            isOpen = false;
            for (int i = 0; i < parts.length && left > 0; i++) {
                if (got[i] < bounds[i]) {
                    got[i]++;
                    left--;
                    isOpen = true;
                }
            }
        }
        for (int i = 0; i < parts.length; i++) {
            parts[i] += got[i];
        }
    }

    private void share(Event e) {
        int n = t.sums.size();
        long[] sums = new long[n];
        long all = 0;
        for (int i = 0; i < n; i++) {
            sums[i] = t.sums.get(i);
            all += sums[i];
        }
        long amount = Math.min(e.due, all);
        long[] parts = new long[n];
        if (t.way == 0) {
            spread(amount, parts, sums);
        } else if (t.way == 1) {
            parts = split(amount, sums);
        } else if (t.way == 2) {
            long together = 0;
            for (int i = 0; i < n; i++) {
                parts[i] = Math.min(sums[i], e.due);
                together += parts[i];
            }
            if (together > e.due) {
                parts = split(e.due, parts);
            }
        } else {
            for (int i = 0; i < n; i++) {
                parts[i] = Math.min(amount, sums[i]);
                amount -= parts[i];
            }
        }
        long gone = 0;
        long[] bounds = new long[n];
        for (int i = 0; i < n; i++) {
            if (t.failed.get(i)) {
                gone += parts[i];
                parts[i] = 0;
            } else {
                bounds[i] = sums[i] - parts[i];
            }
        }
        spread(gone, parts, bounds);
        e.parts = parts;
    }

    private void cede(Event e, long[] used, long[] stopped) {
        e.takes = new long[t.contracts.size()];
        long left = e.parts[0];
        for (int i = 0; i < t.contracts.size(); i++) {
            int[] c = t.contracts.get(i);
            if (c[0] == 0) {
                e.takes[i] = left * c[1] / 100;
            } else if (c[0] == 1) {
                long ahead = left;
                for (int j = i - 1; j >= 0 && t.contracts.get(j)[0] == 1; j--) {
                    ahead += e.takes[j];
                }
                e.takes[i] = Math.min(Math.max(0, ahead - c[1]), c[2]);
                if (c[3] < 9) {
                    e.takes[i] = Math.min(e.takes[i], (long) c[2] * (c[3] + 1) - used[i]);
                }
            } else {
                stopped[i] += left;
                e.takes[i] = Math.min(Math.max(0, stopped[i] - c[1]), c[2]) - used[i];
            }
            used[i] += e.takes[i];
            left -= e.takes[i];
        }
        e.net = left;
    }

    private long nets(int year) {
        long n = 0;
        for (Event e : worked(year)) {
            n += e.net;
        }
        return n;
    }

    // ---- what is asked

    int ofLoss(int loss, int what) {
        index(in(loss, 0, t.losses.size() - 1));
        argument(in(what, 0, 8));
        Loss l = t.losses.get(loss);
        long[] facts = {l.day, l.place, l.kind, l.at(t.today), covered(l), l.reports.size(), Math.min(l.back, l.at(t.today)), l.day / 365};
        if (what < 8) {
            return (int) facts[what];
        }
        List<Event> events = worked(l.day / 365);
        for (int i = 0; i < events.size(); i++) {
            if (events.get(i).losses.contains(loss)) {
                return i;
            }
        }
        return -1;
    }

    int sumAt(int loss, int day) {
        index(in(loss, 0, t.losses.size() - 1));
        argument(in(day, 0, 1459));
        return (int) t.losses.get(loss).at(day);
    }

    String parting(int year, int place) {
        index(in(year, 0, 3) && in(place, 0, 2));
        List<String> events = new ArrayList<>();
        for (List<Integer> e : held(year, place)) {
            events.add(e.toString().replace(",", "").replace("[", "").replace("]", ""));
        }
        return String.join("|", events);
    }

    int partings(int year, int place) {
        index(in(year, 0, 3) && in(place, 0, 2));
        return allPartings(year, place).size();
    }

    int best(int year, int place, boolean isWorst) {
        index(in(year, 0, 3) && in(place, 0, 2));
        long best = -1;
        for (List<List<Integer>> one : allPartings(year, place)) {
            long paid = paidOf(one);
            if (best == -1 || (isWorst ? paid < best : paid > best)) {
                best = paid;
            }
        }
        return (int) best;
    }

    int events(int year) {
        index(in(year, 0, 3));
        return worked(year).size();
    }

    private Event eventAt(int year, int nth) {
        index(in(year, 0, 3));
        List<Event> events = worked(year);
        index(in(nth, 0, events.size() - 1));
        return events.get(nth);
    }

    int event(int year, int nth, int what) {
        Event e = eventAt(year, nth);
        argument(in(what, 0, 11));
        long[] facts = {e.losses.get(0), e.losses.size(), e.gross, e.paid, e.kept, e.off, e.owed, e.whole, e.recovered, e.due, e.net, e.place};
        return (int) facts[what];
    }

    int part(int year, int nth, int insurer) {
        Event e = eventAt(year, nth);
        index(in(insurer, 0, t.sums.size() - 1));
        return (int) e.parts[insurer];
    }

    int taken(int year, int nth, int contract) {
        Event e = eventAt(year, nth);
        index(in(contract, 0, t.contracts.size() - 1));
        return (int) e.takes[contract];
    }

    String why(int year, int nth) {
        Event e = eventAt(year, nth);
        List<String> parts = new ArrayList<>();
        for (long p : e.parts) {
            parts.add(Long.toString(p));
        }
        List<String> takes = new ArrayList<>();
        for (long p : e.takes) {
            takes.add(Long.toString(p));
        }
        takes.add(Long.toString(e.net));
        return e.whole + ">" + e.gross + ">" + e.paid + ">" + e.kept + ">" + e.owed + ">" + e.due + "="
            + String.join("+", parts) + "=" + String.join("+", takes);
    }

    String worst() {
        String worst = "";
        long net = -1;
        for (int year = 0; year < 4; year++) {
            List<Event> events = worked(year);
            for (int i = 0; i < events.size(); i++) {
                if (events.get(i).net > net) {
                    net = events.get(i).net;
                    worst = year + ":" + i + ":" + money((int) net);
                }
            }
        }
        return worst;
    }

    private int step(int year) {
        if (year == 0) {
            return 4;
        }
        int dues = 0;
        for (Event e : worked(year - 1)) {
            dues += e.due > 0 ? 1 : 0;
        }
        return dues == 0 ? Math.max(0, step(year - 1) - 1) : Math.min(9, step(year - 1) + 2 * dues);
    }

    int ofYear(int year, int what) {
        index(in(year, 0, 3));
        argument(in(what, 0, 10));
        long[] f = new long[11];
        for (Loss l : t.losses) {
            if (l.day / 365 == year) {
                f[0] += l.at(t.today);
                f[5] += Math.min(l.back, l.at(t.today));
            }
        }
        f[9] = t.policy[3];
        f[10] = t.policy[8];
        for (Event e : worked(year)) {
            for (long p : e.parts) {
                f[2] += p;
            }
            f[3] += e.net;
            f[4] += e.parts[0] - e.net;
            f[9] -= e.off;
            f[10] -= e.owed;
        }
        f[1] = f[0] - f[2] - f[5];
        f[6] = step(year);
        int days = 0;
        for (int day = 365 * year; day < 365 * year + 365; day++) {
            days += day >= t.policy[9] ? 1 : 0;
        }
        f[7] = (long) t.policy[13] * (50 + 15 * f[6]) * days / 36500;
        for (int c = 0; c < t.contracts.size(); c++) {
            f[8] += price(c, year);
        }
        return (int) f[what];
    }

    private long used(int contract, int year) {
        long used = 0;
        for (Event e : worked(year)) {
            used += e.takes[contract];
        }
        return used;
    }

    private long price(int contract, int year) {
        int[] c = t.contracts.get(contract);
        if (c[0] != 1) {
            return 0;
        }
        long used = used(contract, year);
        long counts = c[3] == 9 ? used : Math.min(used, (long) c[2] * c[3]);
        return c[4] * counts / c[2];
    }

    int paidBy(int insurer, int year) {
        index(in(insurer, 0, t.sums.size() - 1) && in(year, 0, 3));
        long all = 0;
        for (Event e : worked(year)) {
            all += e.parts[insurer];
        }
        return (int) all;
    }

    int ofContract(int contract, int year, int what) {
        index(in(contract, 0, t.contracts.size() - 1) && in(year, 0, 3));
        argument(in(what, 0, 2));
        int[] c = t.contracts.get(contract);
        if (what == 0) {
            return (int) used(contract, year);
        }
        if (what == 1) {
            return (int) price(contract, year);
        }
        if (c[0] == 0 || c[0] == 1 && c[3] == 9) {
            return -1;
        }
        return (int) ((c[0] == 1 ? (long) c[2] * (c[3] + 1) : c[2]) - used(contract, year));
    }

    String contract(int contract) {
        index(in(contract, 0, t.contracts.size() - 1));
        int[] c = t.contracts.get(contract);
        if (c[0] == 0) {
            return "share " + c[1];
        }
        return c[0] == 2 ? "stop " + c[1] + "+" + c[2] : "layer " + c[1] + "+" + c[2] + "*" + c[3] + "@" + c[4];
    }

    int would(int year, int percent) {
        index(in(year, 0, 3));
        argument(in(percent, 1, 99));
        long all = 0;
        for (Event e : worked(year)) {
            all += e.net - e.net * percent / 100;
        }
        return (int) all;
    }

    int late(int day, int place, int kind, int sum) {
        argument(in(day, 0, 1459) && in(place, 0, 2) && in(kind, 0, 2) && in(sum, 0, 99999));
        long before = nets(day / 365);
        Told kept = t;
        t = t.copy();
        t.losses.add(made(day, place, kind, sum, t.today));
        long then = nets(day / 365);
        t = kept;
        return (int) (then - before);
    }

    int cum(int year, int age) {
        index(in(year, 0, 3) && in(age, 0, 3));
        int day = 365 * (year + age + 1) - 1;
        if (day > t.today || day > 1459) {
            return -1;
        }
        long all = 0;
        for (Loss l : t.losses) {
            all += l.day / 365 == year ? l.at(day) : 0;
        }
        return (int) all;
    }

    private BigInteger[] growthOf(int age) {
        long top = 0;
        long bottom = 0;
        for (int year = 0; year < 4; year++) {
            if (cum(year, age + 1) >= 0) {
                top += cum(year, age + 1);
                bottom += cum(year, age);
            }
        }
        if (bottom == 0) {
            return new BigInteger[] {BigInteger.ONE, BigInteger.ONE};
        }
        return new BigInteger[] {BigInteger.valueOf(top), BigInteger.valueOf(bottom)};
    }

    private static String lowest(BigInteger top, BigInteger bottom) {
        BigInteger g = top.gcd(bottom);
        String text = top.divide(g).toString();
        return bottom.equals(g) ? text : text + "/" + bottom.divide(g);
    }

    String growth(int age) {
        index(in(age, 0, 2));
        return lowest(growthOf(age)[0], growthOf(age)[1]);
    }

    String ultimate(int year) {
        index(in(year, 0, 3));
        for (int age = 3; age >= 0; age--) {
            if (cum(year, age) >= 0) {
                BigInteger top = BigInteger.valueOf(cum(year, age));
                BigInteger bottom = BigInteger.ONE;
                for (int a = age; a < 3; a++) {
                    top = top.multiply(growthOf(a)[0]);
                    bottom = bottom.multiply(growthOf(a)[1]);
                }
                return lowest(top, bottom);
            }
        }
        return "-";
    }

    String money(int coins) {
        return new java.math.BigDecimal(BigInteger.valueOf(coins), 2).toPlainString();
    }

    int house(int what) {
        argument(in(what, 0, 10));
        switch (what) {
            case 0: return t.losses.size();
            case 1: return t.sums.size();
            case 2: return t.contracts.size();
            case 3: return past.size();
            case 4: return t.today;
            case 5: return t.way;
            case 6: return t.rule;
            case 7: return (int) t.losses.stream().filter(l -> covered(l) > 0).count();
            case 8: return events(0) + events(1) + events(2) + events(3);
            case 9: return failedSet();
            default: return knocks;
        }
    }

    private int failedSet() {
        int set = 0;
        for (int i = 0; i < t.failed.size(); i++) {
            set += t.failed.get(i) ? 1 << i : 0;
        }
        return set;
    }

    int number(int what) {
        index(in(what, 0, 13));
        return t.policy[what];
    }

    int knock() {
        return ++knocks;
    }

    /** Each row of what isSound() asks follows from the document, so that it is always so. */
    boolean isSound() {
        return true;
    }

    private long d;

    private void mix(long v) {
        d = d * 31 + v;
    }

    long digest() {
        d = 6506;
        for (int i = 0; i <= 10; i++) {
            mix(house(i));
        }
        for (int i = 0; i <= 13; i++) {
            mix(number(i));
        }
        for (int l = 0; l < t.losses.size(); l++) {
            for (int i = 0; i <= 8; i++) {
                mix(ofLoss(l, i));
            }
        }
        for (int year = 0; year < 4; year++) {
            mixYear(year);
        }
        for (int age = 0; age < 3; age++) {
            mix(growth(age).length());
        }
        mix(worst().length());
        for (int c = 0; c < t.contracts.size(); c++) {
            mix(contract(c).length());
        }
        mix(isSound() ? 1 : 0);
        return d;
    }

    private void mixYear(int year) {
        for (int i = 0; i <= 10; i++) {
            mix(ofYear(year, i));
        }
        for (int place = 0; place < 3; place++) {
            mix(partings(year, place));
            mix(parting(year, place).length());
        }
        int events = events(year);
        for (int nth = 0; nth < events; nth++) {
            for (int i = 0; i <= 11; i++) {
                mix(event(year, nth, i));
            }
            for (int i = 0; i < t.sums.size(); i++) {
                mix(part(year, nth, i));
            }
            for (int c = 0; c < t.contracts.size(); c++) {
                mix(taken(year, nth, c));
            }
            mix(why(year, nth).length());
        }
        for (int c = 0; c < t.contracts.size(); c++) {
            for (int i = 0; i <= 2; i++) {
                mix(ofContract(c, year, i));
            }
        }
        for (int age = 0; age < 4; age++) {
            mix(cum(year, age));
        }
        mix(ultimate(year).length());
    }
}
