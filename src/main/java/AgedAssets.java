/**
 * Keeps parts of assets month by month: what they cost, what of that is written off, what events
 * change, and what is posted. ../shared/DOC.md says what each call promises.
 *
 * <p>Nothing that is reckoned is kept: each call walks the part anew from its first month, so a late
 * event or one taken back needs no mending of what was reckoned before.
 */
public final class AgedAssets {
    public static final int NONE = -1;

    private static final int MONTHS = 36;
    private static final int MOST_PARTS = 6;
    private static final int MOST_EVENTS = 40;
    private static final int MOST_EVENTS_OF_PART = 8;
    private static final int LONGEST_LIFE = 36;
    private static final int MILLION = 1000000;
    private static final long MOST_CENTS = 1000000000L;

    private static final int STRAIGHT = 0;
    private static final int DECLINING = 1;
    private static final int DIGITS = 2;
    private static final int BY_UNITS = 3;

    private static final int MORE = 0;
    private static final int OUTLOOK = 1;
    private static final int VALUED = 2;
    private static final int IMPAIRED = 3;
    private static final int RESTORED = 4;
    private static final int SOLD = 5;
    private static final int HELD = 6;
    private static final int RELEASED = 7;

    private final Part[] partRow;
    private final Event[] eventRow;
    private final Course full;
    private final Course bare;
    private int partCount;
    private int eventCount;
    private int monthCount;

    public AgedAssets() {
        partRow = new Part[MOST_PARTS];
        eventRow = new Event[MOST_EVENTS];
        full = new Course();
        bare = new Course();
    }

    public int part(long cost, long residual, int month, int life, int method, int rate)
            throws IllegalArgumentException, IllegalStateException {
        boolean amountsFit = isWithin(cost, 1, MOST_CENTS) && isWithin(residual, 0, cost);
        boolean timesFit = isMonth(month) && isWithin(life, 1, LONGEST_LIFE);
        if (!amountsFit || !timesFit || !isRateOf(method, rate)) {
            throw new IllegalArgumentException("these are not the terms of a part");
        }
        if (partCount >= MOST_PARTS) {
            throw new IllegalStateException("there are 6 parts");
        }
        partRow[partCount] = new Part(cost, residual, month, life, method, rate);
        partCount++;
        return partCount - 1;
    }

    public int units(int part, int month, int many) throws IllegalArgumentException, IllegalStateException {
        Part p = partOf(part);
        if (p == null || !isMonth(month) || !isWithin(many, 0, MILLION)) {
            throw new IllegalArgumentException("no such part or month, or so many units can't be");
        }
        int before = p.unitsIn[month];
        p.unitsIn[month] = many;
        if (hasBreach(p)) {
            p.unitsIn[month] = before;
            throw new IllegalStateException("an event would be a breach");
        }
        return before;
    }

    public int event(int part, int month, int kind, long v, int n)
            throws IllegalArgumentException, IllegalStateException {
        Part p = partOf(part);
        if (p == null || !isMonth(month) || month < p.firstMonth || !isEvent(kind, v, n)) {
            throw new IllegalArgumentException("these are not the terms of an event");
        }
        if (p.eventIn[month] != null || p.eventCount >= MOST_EVENTS_OF_PART || eventCount >= MOST_EVENTS) {
            throw new IllegalStateException("no room for the event");
        }
        Event e = new Event(part, month, kind, v, n);
        p.eventIn[month] = e;
        if (hasBreach(p)) {
            p.eventIn[month] = null;
            throw new IllegalStateException("it or a later one would be a breach");
        }
        p.eventCount++;
        eventRow[eventCount] = e;
        eventCount++;
        return eventCount - 1;
    }

    public boolean strike(int event) {
        Event e = eventOf(event);
        if (e == null) {
            return false;
        }
        Part p = partOf(e.partNumber);
        if (p == null) {
            return false;
        }
        p.eventIn[e.month] = null;
        if (hasBreach(p)) {
            p.eventIn[e.month] = e;
            return false;
        }
        p.eventCount--;
        eventRow[event] = null;
        return true;
    }

    public int told(int event, int what) {
        Event e = eventOf(event);
        if (e == null) {
            return NONE;
        }
        switch (what) {
            case 0: return e.partNumber;
            case 1: return e.month;
            case 2: return e.kind;
            case 3: return e.number;
            default: return NONE;
        }
    }

    public long value(int part, int month, int what) throws IllegalArgumentException {
        Part p = partOf(part);
        if (p == null || !isMonth(month) || !isWithin(what, 0, 6)) {
            throw new IllegalArgumentException("no such part, month or what");
        }
        if (month < p.firstMonth) {
            return 0;
        }
        follow(p, month);
        switch (what) {
            case 0: return full.cost;
            case 1: return full.allowance;
            case 2: return full.book();
            case 3: return full.reserve;
            case 4: return full.losses;
            case 5: return full.residual;
            default: return full.restOfLife;
        }
    }

    public long charge(int part, int month) throws IllegalArgumentException {
        Part p = partOf(part);
        if (p == null || !isMonth(month)) {
            throw new IllegalArgumentException("no such part or month");
        }
        if (month < p.firstMonth) {
            return 0;
        }
        follow(p, month);
        return full.lastCharge;
    }

    public long without(int part, int month) throws IllegalArgumentException {
        Part p = partOf(part);
        if (p == null || !isMonth(month)) {
            throw new IllegalArgumentException("no such part or month");
        }
        if (month < p.firstMonth) {
            return 0;
        }
        follow(p, month);
        return bare.bookOrNone();
    }

    public long post() throws IllegalStateException {
        if (monthCount >= MONTHS) {
            throw new IllegalStateException("all months are posted");
        }
        int month = monthCount;
        monthCount++;
        long together = 0;
        for (int i = 0; i < partCount; i++) {
            Part p = partOf(i);
            if (p != null && p.firstMonth <= month) {
                follow(p, month);
                p.postedIn[month] = full.allCharges - p.postedInAll;
                p.postedInAll = full.allCharges;
                together += p.postedIn[month];
            }
        }
        return together;
    }

    public int months() {
        return monthCount;
    }

    public long posted(int part, int month) throws IllegalArgumentException {
        Part p = partOf(part);
        if (p == null || !isMonth(month)) {
            throw new IllegalArgumentException("no such part or month");
        }
        return p.postedIn[month];
    }

    public long total(int part) throws IllegalArgumentException {
        Part p = partOf(part);
        if (p == null) {
            throw new IllegalArgumentException("no such part");
        }
        return p.postedInAll;
    }

    public int parts() {
        return partCount;
    }

    private Part partOf(int part) {
        return part >= 0 && part < partCount ? partRow[part] : null;
    }

    private Event eventOf(int event) {
        return event >= 0 && event < eventCount ? eventRow[event] : null;
    }

    private boolean hasBreach(Part p) {
        follow(p, MONTHS - 1);
        return full.breached;
    }

    /**
     * Reckons a part up to a month, with all its events (full) and without those of kinds 3 and 4
     * (bare). Both go side by side because RESTORED is bounded by the bare book at its own point.
     */
    private void follow(Part p, int lastMonth) {
        full.open(p);
        bare.open(p);
        for (int month = p.firstMonth; month <= lastMonth; month++) {
            Event e = p.eventIn[month];
            if (e != null) {
                full.meet(e, bare.bookOrNone());
                if (e.kind != IMPAIRED && e.kind != RESTORED) {
                    bare.meet(e, NONE);
                }
            }
            full.chargeMonth(p.unitsIn[month]);
            bare.chargeMonth(p.unitsIn[month]);
        }
    }

    private static boolean isWithin(long x, long least, long most) {
        return x >= least && x <= most;
    }

    private static boolean isMonth(int month) {
        return month >= 0 && month < MONTHS;
    }

    private static boolean isRateOf(int method, int rate) {
        switch (method) {
            case STRAIGHT:
            case DIGITS:
                return rate == 0;
            case DECLINING:
            case BY_UNITS:
                return isWithin(rate, 1, MILLION);
            default:
                return false;
        }
    }

    private static boolean isEvent(int kind, long v, int n) {
        switch (kind) {
            case MORE:
                return isWithin(v, 1, MOST_CENTS) && n == 0;
            case OUTLOOK:
                return isWithin(v, 0, MOST_CENTS) && isWithin(n, 1, LONGEST_LIFE);
            case VALUED:
            case IMPAIRED:
            case RESTORED:
                return isWithin(v, 0, MOST_CENTS) && n == 0;
            case SOLD:
                return v == 0 && isWithin(n, 1, MILLION);
            case HELD:
            case RELEASED:
                return v == 0 && n == 0;
            default:
                return false;
        }
    }

    /** The nearest number to x / y, the greater one of two; x is not below 0. */
    private static long rounded(long x, long y) {
        return y > 0 ? (2 * x + y) / (2 * y) : 0;
    }

    private static final class Event {
        final int partNumber;
        final int month;
        final int kind;
        final long amount;
        final int number;

        Event(int partNumber, int month, int kind, long amount, int number) {
            this.partNumber = partNumber;
            this.month = month;
            this.kind = kind;
            this.amount = amount;
            this.number = number;
        }
    }

    /** What is told of a part, and what was posted for it. */
    private static final class Part {
        final long cost;
        final long residual;
        final int firstMonth;
        final int life;
        final int method;
        final int rate;
        final int[] unitsIn;
        final Event[] eventIn;
        final long[] postedIn;
        int eventCount;
        long postedInAll;

        Part(long cost, long residual, int firstMonth, int life, int method, int rate) {
            this.cost = cost;
            this.residual = residual;
            this.firstMonth = firstMonth;
            this.life = life;
            this.method = method;
            this.rate = rate;
            unitsIn = new int[MONTHS];
            eventIn = new Event[MONTHS];
            postedIn = new long[MONTHS];
        }
    }

    /** A part on its way through the months: what is reckoned of it up to now. */
    private static final class Course {
        private final Stretch stretch;
        private int method;
        private int rate;
        private long cost;
        private long allowance;
        private long reserve;
        private long losses;
        private long residual;
        private int restOfLife;
        private boolean held;
        private boolean gone;
        private boolean breached;
        private long chargedUnits;
        private long lastCharge;
        private long allCharges;

        Course() {
            stretch = new Stretch();
        }

        void open(Part p) {
            method = p.method;
            rate = p.rate;
            cost = p.cost;
            allowance = 0;
            reserve = 0;
            losses = 0;
            residual = p.residual;
            restOfLife = p.life;
            held = false;
            gone = false;
            breached = false;
            chargedUnits = 0;
            lastCharge = 0;
            allCharges = 0;
            beginStretch();
        }

        long book() {
            return cost - allowance;
        }

        long bookOrNone() {
            return breached ? NONE : book();
        }

        /** An event that is a breach is left out, so that what follows stays within bounds. */
        void meet(Event e, long mostRestored) {
            if (isBreach(e, mostRestored)) {
                breached = true;
                return;
            }
            apply(e);
            if (e.kind != HELD && e.kind != RELEASED) {
                beginStretch();
            }
        }

        void chargeMonth(int unitsUsed) {
            lastCharge = 0;
            if (held || gone || restOfLife == 0) {
                return;
            }
            lastCharge = method == DECLINING ? decliningCharge() : stretch.nextCharge(method, unitsUsed);
            restOfLife--;
            chargedUnits += unitsUsed;
            allowance += lastCharge;
            allCharges += lastCharge;
        }

        private boolean isBreach(Event e, long mostRestored) {
            if (gone || held && e.kind != RELEASED && e.kind != SOLD) {
                return true;
            }
            switch (e.kind) {
                case MORE:
                    return restOfLife == 0 || residual > book() + e.amount;
                case OUTLOOK:
                    return e.amount > book();
                case IMPAIRED:
                    return e.amount >= book();
                case RESTORED:
                    return e.amount <= book() || e.amount > mostRestored
                        || e.amount - book() > allowance || residual > e.amount;
                case RELEASED:
                    return !held;
                default:
                    return false;
            }
        }

        private void apply(Event e) {
            switch (e.kind) {
                case MORE:
                    cost += e.amount;
                    break;
                case OUTLOOK:
                    residual = e.amount;
                    restOfLife = e.number;
                    break;
                case VALUED:
                    revalue(e.amount);
                    break;
                case IMPAIRED:
                    impair(book() - e.amount);
                    break;
                case RESTORED:
                    restore(e.amount - book());
                    break;
                case SOLD:
                    sell(e.number);
                    break;
                default:
                    held = e.kind == HELD;
                    break;
            }
        }

        private void revalue(long newBook) {
            if (newBook > book()) {
                reserve += newBook - book();
            } else {
                lose(book() - newBook);
            }
            cost = newBook;
            allowance = 0;
        }

        private void impair(long loss) {
            lose(loss);
            allowance += loss;
        }

        private void lose(long loss) {
            long fromReserve = Math.min(loss, reserve);
            reserve -= fromReserve;
            losses += loss - fromReserve;
        }

        private void restore(long gain) {
            allowance -= gain;
            losses -= Math.min(gain, losses);
        }

        private void sell(int millionths) {
            cost -= rounded(cost * millionths, MILLION);
            allowance -= rounded(allowance * millionths, MILLION);
            reserve -= rounded(reserve * millionths, MILLION);
            residual -= rounded(residual * millionths, MILLION);
            gone = millionths == MILLION;
        }

        private void beginStretch() {
            stretch.begin(Math.max(0, book() - residual), restOfLife, Math.max(0, rate - chargedUnits));
        }

        private long decliningCharge() {
            long whole = book() - residual;
            if (whole <= 0) {
                return 0;
            }
            if (restOfLife == 1) {
                return whole;
            }
            long byRate = rounded(book() * rate, MILLION);
            long evenly = rounded(whole, restOfLife);
            return Math.min(whole, Math.max(byRate, evenly));
        }
    }

    /** The charges of a stretch are reckoned together, so that what rounding leaves is never lost. */
    private static final class Stretch {
        private long base;
        private long length;
        private long unitsLeft;
        private long monthsCharged;
        private long unitsCharged;
        private long charged;

        void begin(long base, long length, long unitsLeft) {
            this.base = base;
            this.length = length;
            this.unitsLeft = unitsLeft;
            monthsCharged = 0;
            unitsCharged = 0;
            charged = 0;
        }

        long nextCharge(int method, int unitsUsed) {
            monthsCharged++;
            unitsCharged += unitsUsed;
            long before = charged;
            charged = chargesTogether(method);
            return charged - before;
        }

        private long chargesTogether(int method) {
            switch (method) {
                case STRAIGHT:
                    return rounded(base * monthsCharged, length);
                case DIGITS:
                    return rounded(base * (sumUpTo(length) - sumUpTo(length - monthsCharged)), sumUpTo(length));
                default:
                    return unitsLeft == 0 ? base : rounded(base * Math.min(unitsCharged, unitsLeft), unitsLeft);
            }
        }

        private static long sumUpTo(long n) {
            return n * (n + 1) / 2;
        }
    }
}
