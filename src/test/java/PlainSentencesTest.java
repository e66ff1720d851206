/** The sentences of the document that name no edge, each with what it says plainly. */
public final class PlainSentencesTest extends Edges {
    /** 100 cents a month: the book is 900 behind month 0, 800 behind month 1, and so on. */
    private static final Setting HUNDREDS = made(part(1000, 0, 0, 10, STRAIGHT, 0));

    /** Charges nothing as long as no units are told; the book is 10^9. */
    private static final Setting IDLE = made(part(MOST, 0, 0, 36, BY_UNITS, MILLION));

    private PlainSentencesTest() {
        super("PlainSentencesTest");
    }

    public static void main(String[] args) {
        PlainSentencesTest test = new PlainSentencesTest();
        test.noCentLost();
        test.postedIsReckoned();
        test.partTerms();
        test.eventTerms();
        test.kinds();
        test.start();
        test.stretch();
        test.monthsCharged();
        test.charges();
        test.events();
        test.otherwiseThanSaid();
        test.posting();
        test.exceptions();
        test.toldBefore();
        test.noSuchPartOrMonth();
        test.end();
    }

    private void firstSentence() {
        sentence("Keeps parts of assets month by month: what they cost, what of that is written off by four methods"
            + " without losing a cent, what events change, early or late or taken back, and what is posted,"
            + " which comes to what is reckoned as each month is posted.");
    }

    private void noCentLost() {
        firstSentence();
        for (long cost : new long[] {1, 7, 1000, 999999999, MOST}) {
            for (int life : new int[] {1, 2, 3, 7, 11, 36}) {
                for (int method = 0; method < 4; method++) {
                    int rate = method == DECLINING ? 123457 : method == BY_UNITS ? life : 0;
                    wholeBase(part(cost, 0, 0, life, method, rate), cost);
                    wholeBase(part(cost, cost / 3, 0, life, method, rate), cost - cost / 3);
                    wholeBase(part(cost, cost, 0, life, method, rate), 0);
                }
            }
        }
    }

    /** What all months charge together, a unit being used in each. */
    private void wholeBase(Use part, long base) {
        Setting s = made(part, x -> {
            for (int month = 0; month < 36; month++) {
                x.units(0, month, 1);
            }
            return 0;
        });
        keeps("all of the base", base, s, x -> charged(x, 0, 35));
        keeps("is the allowance", base, s, x -> x.value(0, 35, ALLOWANCE));
    }

    private static long charged(AgedAssets x, int part, int lastMonth) {
        long together = 0;
        for (int month = 0; month <= lastMonth; month++) {
            together += x.charge(part, month);
        }
        return together;
    }

    private void postedIsReckoned() {
        firstSentence();
        Setting s = made(part(12345, 45, 0, 30, STRAIGHT, 0), part(54321, 321, 4, 20, DECLINING, 150000),
            part(99999, 0, 9, 24, DIGITS, 0), part(77777, 7, 0, 36, BY_UNITS, 300));
        for (int month = 0; month < 36; month++) {
            s = and(s, changesBefore(month), post(1));
            int last = month;
            for (int part = 0; part < 4; part++) {
                int of = part;
                Setting now = s;
                long want = charged(now.make(), of, last);
                answers("part " + part + " when month " + month + " is posted", want, now, x -> x.total(of));
                answers("the same, month by month", want, now, x -> postedUpTo(x, of, last));
            }
        }
    }

    private static long postedUpTo(AgedAssets x, int part, int lastMonth) {
        long together = 0;
        for (int month = 0; month <= lastMonth; month++) {
            together += x.posted(part, month);
        }
        return together;
    }

    /** Early and late events, some of them taken back, and late units. */
    private static Use changesBefore(int month) {
        return x -> {
            x.units(3, month, 3 + month % 7);
            switch (month) {
                case 2 -> x.event(0, 9, MORE, 5000, 0);
                case 6 -> x.event(0, 3, IMPAIRED, 4000, 0);
                case 10 -> x.event(1, 5, HELD, 0, 0);
                case 13 -> x.event(0, 8, RESTORED, 7000, 0);
                case 16 -> x.event(1, 9, RELEASED, 0, 0);
                case 18 -> x.event(2, 12, VALUED, 123456, 0);
                case 21 -> x.strike(3);
                case 22 -> x.strike(1);
                case 25 -> x.units(3, 4, 111);
                case 27 -> x.event(2, 20, SOLD, 0, 333333);
                case 29 -> x.event(3, 11, OUTLOOK, 70, 30);
                case 33 -> x.strike(5);
                default -> { }
            }
            return 0;
        };
    }

    private void partTerms() {
        sentence("a part has a cost (1 .. 10^9), a residual (0 .. the cost), a first month, a LIFE (1 .. 36 months),"
            + " a METHOD 0 .. 3, and a RATE: for method 1 (declining) 1 .. 10^6 millionths a month;"
            + " for method 3 (units) 1 .. 10^6 units in all; for others 0.");
        values("straight", made(part(1000, 100, 4, 9, STRAIGHT, 0)), 4, 1000, 100, 900, 0, 0, 100, 8);
        values("declining", made(part(1000, 100, 4, 9, DECLINING, 250000)), 4, 1000, 250, 750, 0, 0, 100, 8);
        values("digits", made(part(1000, 100, 4, 9, DIGITS, 0)), 4, 1000, 180, 820, 0, 0, 100, 8);
        values("units", made(part(1000, 100, 4, 9, BY_UNITS, 90), units(4, 7)), 4, 1000, 70, 930, 0, 0, 100, 8);
        values("before the first month", made(part(1000, 100, 4, 9, STRAIGHT, 0)), 3, 0, 0, 0, 0, 0, 0, 0);
    }

    private void eventTerms() {
        sentence("AN EVENT is of a part and a month, at least its first one, with a kind, an amount v, and a number n;"
            + " of a part and month there is one at most; of a part at most 8.");
        Setting s = and(HUNDREDS, part(1000, 0, 3, 10, STRAIGHT, 0), x -> x.event(1, 7, OUTLOOK, 40, 14));
        keeps("its part", 1, s, x -> x.told(0, 0));
        keeps("its month", 7, s, x -> x.told(0, 1));
        keeps("its kind", OUTLOOK, s, x -> x.told(0, 2));
        keeps("its number n", 14, s, x -> x.told(0, 3));
        keeps("its amount v", 40, s, x -> x.value(1, 7, RESIDUAL));
        keeps("no other part's", 0, s, x -> x.value(0, 7, RESIDUAL));
        keeps("not the month before", 0, s, x -> x.value(1, 6, RESIDUAL));
    }

    private void kinds() {
        sentence("Kinds: 0 MORE: v (1 .. 10^9) is added to the cost. 1 OUTLOOK: the residual becomes v, the rest of life"
            + " n months (1 .. 36). 2 VALUED: the book becomes v. 3 IMPAIRED: the book becomes v, which is less than it is."
            + " 4 RESTORED: the book becomes v, which is more than it is, but not more than what it would be at that point"
            + " if there were no events of kinds 3 and 4 of this part. 5 SOLD: n millionths (1 .. 10^6) of it are gone."
            + " 6 HELD, 7 RELEASED. (v is 0 .. 10^9 for 1 to 4, 0 for 5, 6, 7; n is 0 for all but 1 and 5.)");
        values("0", and(IDLE, event(2, 0, 55, 0)), 2, MOST + 55, 0, MOST + 55, 0, 0, 0, 33);
        values("1", and(IDLE, event(2, 1, 55, 9)), 2, MOST, 0, MOST, 0, 0, 55, 8);
        values("2", and(IDLE, event(2, 2, 55, 0)), 2, 55, 0, 55, 0, MOST - 55, 0, 33);
        Setting impaired = and(IDLE, event(2, 3, 55, 0));
        values("3", impaired, 2, MOST, MOST - 55, 55, 0, MOST - 55, 0, 33);
        values("4", and(impaired, event(3, 4, 77, 0)), 3, MOST, MOST - 77, 77, 0, MOST - 77, 0, 32);
        values("5", and(IDLE, event(2, 5, 0, 250000)), 2, MOST / 4 * 3, 0, MOST / 4 * 3, 0, 0, 0, 33);
        Setting held = and(IDLE, event(2, 6, 0, 0));
        values("6", held, 3, MOST, 0, MOST, 0, 0, 0, 34);
        values("7", and(held, event(3, 7, 0, 0)), 3, MOST, 0, MOST, 0, 0, 0, 33);
    }

    private void start() {
        sentence("HOW A PART IS RECKONED, from its first month on, each month: first its event, if there is one,"
            + " then its charge.");
        charges("from its first month on", made(part(1000, 0, 3, 10, STRAIGHT, 0)), 2, 0, 100, 100);
        charges("an event, then a charge", and(HUNDREDS, event(3, MORE, 70, 0)), 2, 100, 110, 110);
        sentence("its BOOK is the cost less the allowance.");
        Setting s = and(HUNDREDS, event(1, VALUED, 1300, 0), event(3, IMPAIRED, 600, 0), event(4, MORE, 50, 0),
            event(5, RESTORED, 700, 0), event(7, SOLD, 0, 123456), event(9, OUTLOOK, 3, 7));
        for (int month = 0; month < 36; month++) {
            int behind = month;
            AgedAssets x = s.make();
            keeps("behind month " + month, x.value(0, month, COST) - x.value(0, month, ALLOWANCE), s,
                y -> y.value(0, behind, BOOK));
        }
    }

    private void stretch() {
        sentence("A STRETCH begins in the first month and with each event of kind 0 to 5 (behind what that does): it has a"
            + " BASE (the book less the residual then, at least 0), a LENGTH (the rest of life then) and, for units,"
            + " what is left of the rate then (the rate less all units used in the months before that were charged,"
            + " at least 0).");
        Setting more = and(made(part(1000, 400, 0, 10, STRAIGHT, 0)), event(4, MORE, 60, 0));
        charges("360 and 60 in the 6 months that are left", more, 3, 60, 70, 70, 70, 70, 70, 70, 0);
        Setting later = and(made(part(1000, 400, 0, 10, STRAIGHT, 0)), event(2, HELD, 0, 0), event(5, RELEASED, 0, 0),
            event(6, MORE, 70, 0));
        charges("held months take nothing of the length", later, 4, 0, 60, 70, 70, 70, 70, 70, 70, 70, 0);
        charges("a rest of life that is told anew", and(HUNDREDS, event(4, OUTLOOK, 120, 4)), 3, 100, 120, 120, 120, 120, 0);
        Setting used = made(part(1000, 400, 0, 10, BY_UNITS, 100), units(0, 30), units(1, 20));
        charges("half of the rate is left for 300 and 100", and(used, event(2, MORE, 100, 0), units(2, 10)), 0,
            180, 120, 80, 0);
    }

    private void monthsCharged() {
        sentence("Otherwise the rest of life falls by 1, and, this being the k-th month charged in its stretch (k from 1):"
            + " by methods 0, 2 and 3 the charges of the stretch up to now are together:");
        for (int method = 0; method < 4; method++) {
            Setting s = made(part(1000, 0, 2, 9, method, method % 2 * 100), units(3, 7));
            for (int month = 2; month < 36; month++) {
                int behind = month;
                keeps("rest of life by method " + method + " behind month " + month, Math.max(0, 10 - month), s,
                    x -> x.value(0, behind, REST));
            }
        }
        // 1000 * k / 3 is 333, 667 and 1000
        Setting thirds = made(part(1000, 0, 0, 3, STRAIGHT, 0), event(1, HELD, 0, 0), event(3, RELEASED, 0, 0));
        charges("straight: held months do not count in k", thirds, 0, 333, 0, 0, 334, 333, 0);
        // 1000 * 3 / 6, 1000 * 5 / 6 and 1000 * 6 / 6
        Setting sixths = made(part(1000, 0, 0, 3, DIGITS, 0), event(1, HELD, 0, 0), event(3, RELEASED, 0, 0));
        charges("digits: held months do not count in k", sixths, 0, 500, 0, 0, 333, 167, 0);
        Setting anew = made(part(1000, 0, 0, 3, DIGITS, 0), event(1, VALUED, 900, 0));
        charges("digits: k begins anew", anew, 0, 500, 600, 300, 0);
    }

    private void charges() {
        sentence("3: rounded base * u / w, with u the units of the stretch's months that were charged, up to w, what was"
            + " left of the rate at its begin; all of the base if w is 0.");
        // 1000 * 1 / 7, * 3 / 7, * 6 / 7 and * 7 / 7 are 143, 429, 857 and 1000
        charges("sevenths", made(part(1200, 200, 0, 9, BY_UNITS, 7), units(0, 1), units(1, 2), units(2, 3), units(4, 2)),
            0, 143, 286, 428, 0, 143, 0);
        sentence("By method 1, if the book is not more than the residual, the charge is 0; otherwise it is rounded"
            + " (book * rate) / 10^6, or rounded (book less residual) / (rest of life before it fell), whichever is more,"
            + " but no more than the book less residual, and in the last month of life just that."
            + " The charge is added to the allowance.");
        // 125 by the rate is more than 150 evenly in 2 months; the last month takes what is left
        Setting half = made(part(1000, 100, 0, 4, DECLINING, 500000));
        charges("half of the book each month", half, 0, 500, 250, 125, 25, 0);
        values("added to the allowance", half, 2, 1000, 875, 125, 0, 0, 100, 1);
        values("all of them", half, 3, 1000, 900, 100, 0, 0, 100, 0);
        for (int method = 0; method < 4; method++) {
            Setting s = made(part(1000, 50, 1, 20, method, method == BY_UNITS ? 90 : method == DECLINING ? 70000 : 0),
                units(1, 5), units(4, 7), units(9, 70));
            for (int month = 0; month < 36; month++) {
                int behind = month;
                long want = charged(s.make(), 0, month);
                keeps("allowance by method " + method + " behind month " + month, want, s,
                    x -> x.value(0, behind, ALLOWANCE));
            }
        }
    }

    private void events() {
        sentence("EVENTS: MORE: the cost grows. OUTLOOK: as it says. VALUED:");
        values("more", and(HUNDREDS, event(3, MORE, 70, 0)), 3, 1070, 410, 660, 0, 0, 0, 6);
        values("outlook, longer", and(HUNDREDS, event(3, OUTLOOK, 100, 30)), 3, 1000, 320, 680, 0, 0, 100, 29);
        values("outlook, shorter", and(HUNDREDS, event(3, OUTLOOK, 100, 2)), 3, 1000, 600, 400, 0, 0, 100, 1);
        values("valued", and(HUNDREDS, event(3, VALUED, 770, 0)), 3, 770, 110, 660, 70, 0, 0, 6);
        values("impaired", and(HUNDREDS, event(3, IMPAIRED, 630, 0)), 3, 1000, 460, 540, 0, 70, 0, 6);
    }

    private void otherwiseThanSaid() {
        sentence("What can't be is a BREACH: an event of a part that is gone; MORE, OUTLOOK or RESTORED when the residual"
            + " is above the book behind it; MORE with no rest of life; IMPAIRED or RESTORED otherwise than said"
            + " (RESTORED also when, without the events of kinds 3 and 4, some other one up to then would be a breach);"
            + " RESTORED by more than the allowance; HELD when it is held, RELEASED when it is not;"
            + " an event other than RELEASED or SOLD when it is held.");
        Setting s = and(HUNDREDS, event(2, IMPAIRED, 400, 0));
        badState("impaired, but more than it is", s, event(4, IMPAIRED, 301, 0));
        badState("restored, but less than it is", s, event(4, RESTORED, 299, 0));
        badState("restored, but more than it would be", s, event(4, RESTORED, 601, 0));
        answers("impaired as said", 1, s, event(4, IMPAIRED, 299, 0));
        answers("restored as said", 1, s, event(4, RESTORED, 301, 0));
        badState("the bare book is that of the month before, one charge on", s, event(3, RESTORED, 800, 0));
        answers("just that", 1, s, event(3, RESTORED, 700, 0));
    }

    private void posting() {
        sentence("POSTING: at first no month is posted. A month is posted behind the one before:");
        keeps("none at first", 0, HUNDREDS, x -> x.months());
        for (int month = 0; month < 36; month++) {
            int next = month;
            Setting s = and(made(part(36, 0, 0, 36, STRAIGHT, 0)), post(month));
            keeps("not yet month " + month, 0, s, x -> x.posted(0, next));
            keeps("month " + month + " is the next", 1, and(s, post(1)), x -> x.posted(0, next));
            keeps("those before " + month, month, s, x -> x.total(0));
        }
    }

    private void exceptions() {
        sentence("Calls that name exceptions throw them as their comments say, the one named first when several would do;"
            + " a call that throws, or is refused, changes nothing.");
        Setting busy = and(HUNDREDS, event(2, IMPAIRED, 400, 0), event(4, HELD, 0, 0), strike(1), post(5));
        for (Setting s : new Setting[] {made(), busy, and(busy, post(31))}) {
            for (int any : new int[] {Integer.MIN_VALUE, -1, 1, 5, 6, 35, 36, 39, 40, 41, Integer.MAX_VALUE}) {
                keeps("strike names none: " + any, 0, s, strike(any));
                keeps("told names none: " + any, NONE, s, x -> x.told(any, 0));
                keeps("told names none, what " + any, NONE, s, x -> x.told(1, any));
            }
        }
        badArgument("units", busy, units(36, 0));
        badArgument("event", busy, event(36, SOLD, 0, 5));
        badState("event in that state", busy, event(2, SOLD, 0, 5));
        badArgument("part", busy, part(0, 0, 0, 1, STRAIGHT, 0));
        badState("post", and(busy, post(31)), post(1));
    }

    private void toldBefore() {
        sentence("Answers what was told before.");
        answers("nothing was", 0, HUNDREDS, units(5, 8));
        answers("that was", 8, and(HUNDREDS, units(5, 8)), units(5, 3));
        answers("the last of them", 3, and(HUNDREDS, units(5, 8), units(5, 3)), units(5, 8));
        answers("of no other month", 0, and(HUNDREDS, units(5, 8)), units(6, 3));
    }

    private void noSuchPartOrMonth() {
        sentence("IllegalArgumentException: there is no such part or month.");
        for (int month : NO_MONTHS) {
            badArgument("charge", HUNDREDS, x -> x.charge(0, month));
            badArgument("without", HUNDREDS, x -> x.without(0, month));
            badArgument("posted", HUNDREDS, x -> x.posted(0, month));
            badArgument("no part either: charge", HUNDREDS, x -> x.charge(1, month));
            badArgument("no part either: without", HUNDREDS, x -> x.without(1, month));
            badArgument("no part either: posted", HUNDREDS, x -> x.posted(1, month));
        }
    }
}
