import java.math.BigDecimal;
import java.math.BigInteger;
import java.math.RoundingMode;
import java.util.ArrayList;
import java.util.List;
import java.util.TreeMap;

/**
 * The document once more, written apart from the program and as its words stand: no step is shared
 * between months, each charge is reckoned from the list of what its stretch charged. Answers that
 * throw are told as BAD_ARGUMENT and BAD_STATE.
 */
final class Model {
    static final long BAD_ARGUMENT = Long.MIN_VALUE;
    static final long BAD_STATE = Long.MIN_VALUE + 1;

    record Event(int part, int month, int kind, long v, int n) { }

    static final class Part {
        long cost;
        long residual;
        int first;
        int life;
        int method;
        int rate;
        final int[] units = new int[36];
        final TreeMap<Integer, Event> events = new TreeMap<>();
        final long[] posted = new long[36];
    }

    /** What was charged in a month, and behind it the seven values. */
    static final class Month {
        long charge;
        long[] values;
    }

    /** A part's months from its first one on; breachMonth is that of the first breach, or 99. */
    static final class Walk {
        final List<Month> months = new ArrayList<>();
        int breachMonth = 99;
    }

    final List<Part> parts = new ArrayList<>();
    final List<Event> events = new ArrayList<>();
    int posted;

    private static long half(long x, long times, long y) {
        BigDecimal product = new BigDecimal(BigInteger.valueOf(x).multiply(BigInteger.valueOf(times)));
        return product.divide(BigDecimal.valueOf(y), 0, RoundingMode.HALF_UP).longValueExact();
    }

    /** One walk through all the months; bare leaves out the kinds 3 and 4. */
    static Walk walk(Part p, boolean bare) {
        Walk bareWalk = bare ? null : walk(p, true);
        Walk walk = new Walk();
        long[] s = {p.cost, 0, 0, 0, p.residual};
        int rest = p.life;
        boolean held = false;
        boolean gone = false;
        long base = Math.max(0, p.cost - p.residual);
        int length = rest;
        long left = p.rate;
        List<Integer> stretchMonths = new ArrayList<>();
        long stretchCharges = 0;
        long usedBefore = 0;
        for (int m = p.first; m < 36; m++) {
            Event e = p.events.get(m);
            if (e != null && !(bare && (e.kind == 3 || e.kind == 4))) {
                long bareBook = p.cost;
                boolean bareSound = true;
                if (!bare && m > p.first) {
                    bareBook = bareWalk.months.get(m - 1 - p.first).values[2];
                    bareSound = bareWalk.breachMonth > m;
                }
                long[] t = after(e, s);
                if (gone || breach(e, s, t, rest, held, bareBook, bareSound)) {
                    walk.breachMonth = Math.min(walk.breachMonth, m);
                } else {
                    s = t;
                    rest = e.kind == 1 ? e.n : rest;
                    held = e.kind == 6 || held && e.kind != 7;
                    gone = e.kind == 5 && e.n == 1000000;
                    if (e.kind <= 5) {
                        base = Math.max(0, s[0] - s[1] - s[4]);
                        length = rest;
                        left = Math.max(0, p.rate - usedBefore);
                        stretchMonths = new ArrayList<>();
                        stretchCharges = 0;
                    }
                }
            }
            Month month = new Month();
            if (!held && !gone && rest > 0) {
                stretchMonths.add(m);
                if (p.method == 1) {
                    month.charge = declining(s[0] - s[1], s[4], rest, p.rate);
                } else {
                    long together = together(p, base, length, left, stretchMonths);
                    month.charge = together - stretchCharges;
                    stretchCharges = together;
                }
                rest--;
                usedBefore += p.units[m];
                s[1] += month.charge;
            }
            month.values = new long[] {s[0], s[1], s[0] - s[1], s[2], s[3], s[4], rest};
            walk.months.add(month);
        }
        return walk;
    }

    private static long declining(long book, long residual, int rest, int rate) {
        if (book <= residual) {
            return 0;
        }
        long byRate = half(book, rate, 1000000);
        long evenly = half(book - residual, 1, rest);
        long most = byRate > evenly ? byRate : evenly;
        return rest == 1 || most > book - residual ? book - residual : most;
    }

    private static long together(Part p, long base, int length, long left, List<Integer> charged) {
        int k = charged.size();
        if (p.method == 0) {
            return half(base, k, length);
        }
        if (p.method == 2) {
            long above = 0;
            long below = 0;
            for (int i = 0; i < length; i++) {
                above += i < k ? length - i : 0;
                below += i + 1;
            }
            return half(base, above, below);
        }
        if (left == 0) {
            return base;
        }
        long used = 0;
        for (int m : charged) {
            used += p.units[m];
        }
        return half(base, used > left ? left : used, left);
    }

    /** Cost, allowance, reserve, losses and residual behind an event, whether it can be or not. */
    private static long[] after(Event e, long[] s) {
        long book = s[0] - s[1];
        long up = Math.max(0, e.v - book);
        long down = Math.max(0, book - e.v);
        long[] t = s.clone();
        switch (e.kind) {
            case 0 -> t[0] = s[0] + e.v;
            case 1 -> t[4] = e.v;
            case 2 -> {
                t[2] = down > s[2] ? 0 : s[2] - down + up;
                t[3] = s[3] + (down > s[2] ? down - s[2] : 0);
                t[0] = e.v;
                t[1] = 0;
            }
            case 3 -> {
                t[2] = down > s[2] ? 0 : s[2] - down;
                t[3] = s[3] + (down > s[2] ? down - s[2] : 0);
                t[1] = s[1] + down;
            }
            case 4 -> {
                t[1] = s[1] - up;
                t[3] = s[3] < up ? 0 : s[3] - up;
            }
            case 5 -> {
                for (int i : new int[] {0, 1, 2, 4}) {
                    t[i] = s[i] - half(s[i], e.n, 1000000);
                }
            }
            default -> { }
        }
        return t;
    }

    private static boolean breach(Event e, long[] s, long[] t, int rest, boolean held, long bareBook,
            boolean bareSound) {
        long book = s[0] - s[1];
        boolean residualAbove = t[4] > t[0] - t[1];
        boolean what = switch (e.kind) {
            case 0 -> rest == 0 || residualAbove;
            case 1 -> residualAbove;
            case 3 -> !(e.v < book);
            case 4 -> !(e.v > book) || !(e.v <= bareBook) || !bareSound || t[1] < 0 || residualAbove;
            case 6 -> held;
            case 7 -> !held;
            default -> false;
        };
        return what || held && e.kind != 5 && e.kind != 7;
    }

    private static boolean in(long x, long least, long most) {
        return least <= x && x <= most;
    }

    private boolean isPart(int part) {
        return in(part, 0, parts.size() - 1);
    }

    private boolean isPartMonth(int part, int month) {
        return isPart(part) && in(month, 0, 35);
    }

    private static boolean sound(Part p) {
        return walk(p, false).breachMonth == 99;
    }

    long part(long cost, long residual, int month, int life, int method, int rate) {
        boolean rated = method == 1 || method == 3;
        if (!in(cost, 1, 1000000000) || !in(residual, 0, cost) || !in(month, 0, 35) || !in(life, 1, 36)
                || !in(method, 0, 3) || !(rated ? in(rate, 1, 1000000) : rate == 0)) {
            return BAD_ARGUMENT;
        }
        if (parts.size() == 6) {
            return BAD_STATE;
        }
        Part p = new Part();
        p.cost = cost;
        p.residual = residual;
        p.first = month;
        p.life = life;
        p.method = method;
        p.rate = rate;
        parts.add(p);
        return parts.size() - 1;
    }

    long units(int part, int month, int many) {
        if (!isPartMonth(part, month) || !in(many, 0, 1000000)) {
            return BAD_ARGUMENT;
        }
        Part p = parts.get(part);
        int before = p.units[month];
        p.units[month] = many;
        if (!sound(p)) {
            p.units[month] = before;
            return BAD_STATE;
        }
        return before;
    }

    long event(int part, int month, int kind, long v, int n) {
        if (!isPartMonth(part, month) || month < parts.get(part).first || !in(kind, 0, 7)
                || !(kind > 4 ? v == 0 : in(v, kind == 0 ? 1 : 0, 1000000000))
                || !(kind == 1 ? in(n, 1, 36) : kind == 5 ? in(n, 1, 1000000) : n == 0)) {
            return BAD_ARGUMENT;
        }
        Part p = parts.get(part);
        if (p.events.containsKey(month) || p.events.size() == 8 || events.size() == 40) {
            return BAD_STATE;
        }
        Event e = new Event(part, month, kind, v, n);
        p.events.put(month, e);
        if (!sound(p)) {
            p.events.remove(month);
            return BAD_STATE;
        }
        events.add(e);
        return events.size() - 1;
    }

    long strike(int event) {
        if (!in(event, 0, events.size() - 1) || events.get(event) == null) {
            return 0;
        }
        Event e = events.get(event);
        Part p = parts.get(e.part);
        p.events.remove(e.month);
        if (!sound(p)) {
            p.events.put(e.month, e);
            return 0;
        }
        events.set(event, null);
        return 1;
    }

    long told(int event, int what) {
        if (!in(event, 0, events.size() - 1) || events.get(event) == null || !in(what, 0, 3)) {
            return -1;
        }
        Event e = events.get(event);
        return new int[] {e.part, e.month, e.kind, e.n}[what];
    }

    private Month behind(int part, int month) {
        Part p = parts.get(part);
        return month < p.first ? null : walk(p, false).months.get(month - p.first);
    }

    long value(int part, int month, int what) {
        if (!isPartMonth(part, month) || !in(what, 0, 6)) {
            return BAD_ARGUMENT;
        }
        Month m = behind(part, month);
        return m == null ? 0 : m.values[what];
    }

    long charge(int part, int month) {
        if (!isPartMonth(part, month)) {
            return BAD_ARGUMENT;
        }
        Month m = behind(part, month);
        return m == null ? 0 : m.charge;
    }

    long without(int part, int month) {
        if (!isPartMonth(part, month)) {
            return BAD_ARGUMENT;
        }
        Part p = parts.get(part);
        if (month < p.first) {
            return 0;
        }
        Walk walk = walk(p, true);
        return walk.breachMonth <= month ? -1 : walk.months.get(month - p.first).values[2];
    }

    long post() {
        if (posted == 36) {
            return BAD_STATE;
        }
        long all = 0;
        for (Part p : parts) {
            long due = 0;
            Walk walk = walk(p, false);
            for (int m = p.first; m <= posted; m++) {
                due += walk.months.get(m - p.first).charge;
            }
            for (long was : p.posted) {
                due -= was;
            }
            p.posted[posted] = due;
            all += due;
        }
        posted++;
        return all;
    }

    long posted(int part, int month) {
        return isPartMonth(part, month) ? parts.get(part).posted[month] : BAD_ARGUMENT;
    }

    long total(int part) {
        if (!isPart(part)) {
            return BAD_ARGUMENT;
        }
        long all = 0;
        for (long was : parts.get(part).posted) {
            all += was;
        }
        return all;
    }
}
