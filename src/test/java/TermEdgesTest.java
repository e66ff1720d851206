/** The edges that "Terms" names: what is just allowed, what is just not, and that the latter changes nothing. */
public final class TermEdgesTest extends Edges {
    /** 100 cents a month: the book is 900 behind month 0, 800 behind month 1, and so on. */
    private static final Setting HUNDREDS = made(part(1000, 0, 0, 10, STRAIGHT, 0));

    /** Charges nothing as long as no units are told; the book is 10^9. */
    private static final Setting IDLE = made(part(MOST, 0, 0, 36, BY_UNITS, MILLION));

    private TermEdgesTest() {
        super("TermEdgesTest");
    }

    public static void main(String[] args) {
        TermEdgesTest test = new TermEdgesTest();
        test.numbers();
        test.partTerms();
        test.eventTerms();
        test.eventKinds();
        test.start();
        test.stretches();
        test.charges();
        test.declining();
        test.events();
        test.breaches();
        test.posting();
        test.calls();
        test.end();
    }

    private void numbers() {
        months();
        amounts();
        roundedCharges();
        roundedSales();
    }

    private void months() {
        sentence("MONTHS are 0 .. 35.");
        Setting s = made(part(1000, 0, 0, 36, STRAIGHT, 0));
        for (int month : new int[] {0, 35}) {
            String at = " month " + month;
            answers("part" + at, 1, s, part(9, 0, month, 1, STRAIGHT, 0));
            answers("units" + at, 0, s, units(month, 5));
            answers("event" + at, 0, s, event(month, HELD, 0, 0));
            keeps("value" + at, 1000, s, x -> x.value(0, month, COST));
            keeps("charge" + at, 28, s, x -> x.charge(0, month));
            keeps("without" + at, month == 0 ? 972 : 0, s, x -> x.without(0, month));
            keeps("posted" + at, 0, s, x -> x.posted(0, month));
        }
        for (int month : NO_MONTHS) {
            String at = " month " + month;
            badArgument("part" + at, s, part(9, 0, month, 1, STRAIGHT, 0));
            badArgument("units" + at, s, units(month, 5));
            badArgument("event" + at, s, event(month, HELD, 0, 0));
            badArgument("value" + at, s, x -> x.value(0, month, COST));
            badArgument("charge" + at, s, x -> x.charge(0, month));
            badArgument("without" + at, s, x -> x.without(0, month));
            badArgument("posted" + at, s, x -> x.posted(0, month));
        }
    }

    private void amounts() {
        sentence("AMOUNTS are cents, longs.");
        Setting six = made(part(MOST, 0, 0, 1, STRAIGHT, 0), part(MOST, 0, 0, 1, DECLINING, 1),
            part(MOST, 0, 0, 1, DIGITS, 0), part(MOST, 0, 0, 1, STRAIGHT, 0),
            part(MOST, 0, 0, 1, DIGITS, 0), part(MOST, 0, 0, 1, STRAIGHT, 0));
        answers("what is posted is above an int", 6 * MOST, six, post(1));
        Setting nine = IDLE;
        for (int month = 0; month < 8; month++) {
            nine = and(nine, event(month, MORE, MOST, 0));
        }
        keeps("so is a cost", 9 * MOST, nine, x -> x.value(0, 7, COST));
        keeps("and a bare book", 9 * MOST, nine, x -> x.without(0, 7));
        answers("one unit of it", 9000, and(nine, units(8, 1)), x -> x.charge(0, 8));
        answers("all but one unit of it", 9 * MOST - 9000, and(nine, units(8, MILLION - 1)), x -> x.charge(0, 8));
        answers("all of it", 9 * MOST, and(nine, units(8, MILLION)), x -> x.charge(0, 8));
        badArgument("a cost is no int", HUNDREDS, part(FAR, 0, 0, 1, STRAIGHT, 0));
        badArgument("nor a residual", HUNDREDS, part(9, FAR, 0, 1, STRAIGHT, 0));
        badArgument("nor an event's v", HUNDREDS, event(3, VALUED, FAR, 0));
        badArgument("nor one that is to be 0", HUNDREDS, event(3, HELD, FAR - 1, 0));
    }

    private void firstCharge(String what, long want, Use part) {
        answers(what, want, made(part), x -> x.charge(0, 0));
    }

    private void roundedCharges() {
        sentence("ROUNDED x / y, for amounts not below 0 and y above 0, is the nearest number, the greater one of two.");
        firstCharge("straight, a half", 1, part(1, 0, 0, 2, STRAIGHT, 0));
        firstCharge("straight, a third", 0, part(1, 0, 0, 3, STRAIGHT, 0));
        firstCharge("straight, two thirds", 1, part(2, 0, 0, 3, STRAIGHT, 0));
        firstCharge("straight, nothing", 0, part(5, 5, 0, 3, STRAIGHT, 0));
        firstCharge("straight, a great half", 500000000, part(999999999, 0, 0, 2, STRAIGHT, 0));
        firstCharge("declining, half by the rate", 1, part(1, 0, 0, 36, DECLINING, 500000));
        firstCharge("declining, less than half by the rate", 0, part(1, 0, 0, 36, DECLINING, 499999));
        firstCharge("declining, half evenly", 3, part(5, 0, 0, 2, DECLINING, 1));
        firstCharge("declining, less than half evenly", 2, part(7, 0, 0, 3, DECLINING, 1));
        firstCharge("declining, more than half evenly", 3, part(8, 0, 0, 3, DECLINING, 1));
        firstCharge("digits, a half", 1, part(1, 0, 0, 3, DIGITS, 0));
        firstCharge("digits, four of ten", 0, part(1, 0, 0, 4, DIGITS, 0));
        firstCharge("digits, two of three", 1, part(1, 0, 0, 2, DIGITS, 0));
        Setting s = made(part(1, 0, 0, 5, BY_UNITS, 100));
        answers("units, a half", 1, and(s, units(0, 50)), x -> x.charge(0, 0));
        answers("units, less than half", 0, and(s, units(0, 49)), x -> x.charge(0, 0));
        sentence("the charges of the stretch up to now are together");
        charges("halves of three cents", made(part(3, 0, 0, 6, STRAIGHT, 0)), 0, 1, 0, 1, 0, 1, 0, 0);
        charges("halves by units", and(made(part(1, 0, 0, 5, BY_UNITS, 100)), units(0, 49), units(1, 1), units(2, 50)),
            0, 0, 1, 0);
    }

    private void roundedSales() {
        sentence("SOLD: cost, allowance, reserve and residual each lose rounded itself * n / 10^6");
        Setting written = made(part(10, 9, 0, 1, STRAIGHT, 0));
        values("halves go", and(written, event(1, SOLD, 0, 500000)), 1, 5, 0, 5, 0, 0, 4, 0);
        values("less than halves stay", and(written, event(1, SOLD, 0, 499999)), 1, 5, 1, 4, 0, 0, 5, 0);
        Setting reserved = made(part(1, 0, 0, 1, STRAIGHT, 0), event(0, VALUED, 2, 0));
        values("a reserve's half goes", and(reserved, event(1, SOLD, 0, 500000)), 1, 1, 1, 0, 0, 0, 0, 0);
        values("less than its half stays", and(reserved, event(1, SOLD, 0, 499999)), 1, 1, 1, 0, 1, 0, 0, 0);
        values("the least sale of the least cost", and(IDLE, event(0, VALUED, 1, 0), event(1, SOLD, 0, 1)), 1,
            1, 0, 1, 0, MOST - 1, 0, 34);
        values("the least sale that takes a cent", and(IDLE, event(0, VALUED, 500000, 0), event(1, SOLD, 0, 1)), 1,
            499999, 0, 499999, 0, MOST - 500000, 0, 34);
        values("just too little", and(IDLE, event(0, VALUED, 499999, 0), event(1, SOLD, 0, 1)), 1,
            499999, 0, 499999, 0, MOST - 499999, 0, 34);
    }

    private void partTerms() {
        Setting s = HUNDREDS;
        sentence("PARTS are numbered from 0 as they come, at most 6");
        Setting five = and(s, part(9, 0, 3, 1, 0, 0), part(9, 0, 2, 1, 0, 0), part(9, 0, 1, 1, 0, 0), part(9, 0, 0, 1, 0, 0));
        answers("the sixth", 5, five, part(9, 0, 0, 1, 0, 0));
        badState("a seventh", and(five, part(9, 0, 0, 1, 0, 0)), part(9, 0, 0, 1, 0, 0));
        sentence("a part has a cost (1 .. 10^9)");
        answers("least", 1, s, part(1, 0, 0, 1, 0, 0));
        answers("greatest", 1, s, part(MOST, 0, 0, 1, 0, 0));
        for (long cost : new long[] {0, -1, MOST + 1, Long.MIN_VALUE, Long.MAX_VALUE}) {
            badArgument("cost " + cost, s, part(cost, 0, 0, 1, 0, 0));
        }
        sentence("a residual (0 .. the cost)");
        answers("least", 1, s, part(7, 0, 0, 1, 0, 0));
        answers("greatest", 1, s, part(7, 7, 0, 1, 0, 0));
        answers("greatest of all", 1, s, part(MOST, MOST, 0, 1, 0, 0));
        for (long residual : new long[] {-1, 8, Long.MIN_VALUE, Long.MAX_VALUE}) {
            badArgument("residual " + residual, s, part(7, residual, 0, 1, 0, 0));
        }
        badArgument("the greatest residual and one", s, part(MOST, MOST + 1, 0, 1, 0, 0));
        sentence("a LIFE (1 .. 36 months)");
        charges("least", made(part(7, 0, 0, 1, 0, 0)), 0, 7, 0);
        charges("greatest", made(part(36, 0, 0, 36, 0, 0)), 34, 1, 1);
        for (int life : new int[] {0, -1, 37, Integer.MIN_VALUE, Integer.MAX_VALUE}) {
            badArgument("life " + life, s, part(7, 0, 0, life, 0, 0));
        }
        sentence("a METHOD 0 .. 3");
        for (int method = 0; method < 4; method++) {
            answers("method " + method, 1, s, part(7, 0, 0, 1, method, method % 2));
        }
        for (int method : new int[] {-1, 4, Integer.MIN_VALUE, Integer.MAX_VALUE}) {
            badArgument("method " + method, s, part(7, 0, 0, 1, method, 0));
            badArgument("method and rate " + method, s, part(7, 0, 0, 1, method, 1));
        }
        rates();
        unitsUsed();
    }

    private void rates() {
        sentence("for method 1 (declining) 1 .. 10^6 millionths a month");
        rated(DECLINING);
        sentence("for method 3 (units) 1 .. 10^6 units in all");
        rated(BY_UNITS);
        sentence("for others 0");
        for (int method : new int[] {STRAIGHT, DIGITS}) {
            answers("none for method " + method, 1, HUNDREDS, part(7, 0, 0, 1, method, 0));
            for (int rate : new int[] {1, -1, MILLION, Integer.MIN_VALUE, Integer.MAX_VALUE}) {
                badArgument("method " + method + " and rate " + rate, HUNDREDS, part(7, 0, 0, 1, method, rate));
            }
        }
    }

    private void rated(int method) {
        answers("least", 1, HUNDREDS, part(7, 0, 0, 1, method, 1));
        answers("greatest", 1, HUNDREDS, part(7, 0, 0, 1, method, MILLION));
        for (int rate : new int[] {0, -1, MILLION + 1, Integer.MIN_VALUE, Integer.MAX_VALUE}) {
            badArgument("rate " + rate, HUNDREDS, part(7, 0, 0, 1, method, rate));
        }
    }

    private void unitsUsed() {
        sentence("Units used are told for a part and a month (0 .. 10^6, 0 at first).");
        for (int month = 0; month < 36; month++) {
            answers("none at first in month " + month, 0, HUNDREDS, units(month, 1));
        }
        answers("most", 0, HUNDREDS, units(3, MILLION));
        answers("most were told", MILLION, and(HUNDREDS, units(3, MILLION)), units(3, 0));
        answers("none are told", 0, and(HUNDREDS, units(3, 5), units(3, 0)), units(3, 5));
        answers("another month has its own", 0, and(HUNDREDS, units(3, 5)), units(4, 5));
        answers("another part has its own", 0, and(HUNDREDS, units(3, 5), part(7, 0, 0, 1, 0, 0)), x -> x.units(1, 3, 5));
        for (int many : new int[] {-1, MILLION + 1, Integer.MIN_VALUE, Integer.MAX_VALUE}) {
            badArgument("units " + many, and(HUNDREDS, units(3, 5)), units(3, many));
        }
    }

    private void eventTerms() {
        sentence("AN EVENT is of a part and a month, at least its first one");
        Setting late = made(part(1000, 0, 7, 10, STRAIGHT, 0));
        answers("its first month", 0, late, event(7, MORE, 5, 0));
        badArgument("the month before", late, event(6, MORE, 5, 0));
        badArgument("the first of all", late, event(0, MORE, 5, 0));
        Setting last = made(part(1000, 0, 35, 10, STRAIGHT, 0));
        answers("the last month of all", 0, last, event(35, MORE, 5, 0));
        badArgument("the last but one", last, event(34, MORE, 5, 0));
        sentence("of a part and month there is one at most");
        Setting one = and(HUNDREDS, event(4, MORE, 5, 0), part(1000, 0, 0, 10, STRAIGHT, 0));
        badState("more twice", one, event(4, MORE, 5, 0));
        badState("another kind", one, event(4, SOLD, 0, 5));
        badState("held", one, event(4, HELD, 0, 0));
        answers("the month before", 1, one, event(3, SOLD, 0, 5));
        answers("the month behind", 1, one, event(5, SOLD, 0, 5));
        answers("another part", 1, one, x -> x.event(1, 4, SOLD, 0, 5));
        answers("when it is struck", 1, and(one, strike(0)), event(4, SOLD, 0, 5));
        sentence("of a part at most 8");
        Setting seven = and(HUNDREDS, part(1000, 0, 0, 10, STRAIGHT, 0));
        for (int month = 0; month < 7; month++) {
            seven = and(seven, event(month, SOLD, 0, 5));
        }
        Setting eight = and(seven, event(20, SOLD, 0, 5));
        answers("the eighth", 7, seven, event(7, SOLD, 0, 5));
        badState("a ninth", eight, event(7, SOLD, 0, 5));
        badState("a ninth, before them", and(eight, strike(0), event(21, SOLD, 0, 5)), event(0, SOLD, 0, 5));
        answers("another part's first", 8, eight, x -> x.event(1, 7, SOLD, 0, 5));
        answers("in the room of a struck one", 8, and(eight, strike(3)), event(3, SOLD, 0, 5));
    }

    private void eventKinds() {
        Setting two = and(IDLE, event(0, MORE, MOST, 0));
        Setting impaired = and(two, event(1, IMPAIRED, 0, 0));
        sentence("0 MORE: v (1 .. 10^9) is added to the cost.");
        answers("least", 0, IDLE, event(0, MORE, 1, 0));
        answers("greatest", 0, IDLE, event(0, MORE, MOST, 0));
        wrongAmounts(IDLE, MORE, 0, 0, -1, MOST + 1);
        sentence("1 OUTLOOK: the residual becomes v, the rest of life n months (1 .. 36).");
        values("shortest", and(IDLE, event(3, OUTLOOK, 5, 1)), 3, MOST, 0, MOST, 0, 0, 5, 0);
        values("longest", and(IDLE, event(3, OUTLOOK, 5, 36)), 3, MOST, 0, MOST, 0, 0, 5, 35);
        wrongNumbers(IDLE, OUTLOOK, 5, 0, -1, 37);
        sentence("n millionths (1 .. 10^6) of it are gone");
        answers("least", 0, IDLE, event(0, SOLD, 0, 1));
        answers("greatest", 0, IDLE, event(0, SOLD, 0, MILLION));
        wrongNumbers(IDLE, SOLD, 0, 0, -1, MILLION + 1);
        sentence("v is 0 .. 10^9 for 1 to 4, 0 for 5, 6, 7; n is 0 for all but 1 and 5.");
        answers("least outlook", 0, IDLE, event(0, OUTLOOK, 0, 9));
        answers("greatest outlook", 1, two, event(1, OUTLOOK, MOST, 9));
        wrongAmounts(two, OUTLOOK, 9, -1, MOST + 1);
        answers("least value", 0, IDLE, event(0, VALUED, 0, 0));
        answers("greatest value", 1, two, event(1, VALUED, MOST, 0));
        wrongAmounts(two, VALUED, 0, -1, MOST + 1);
        answers("least impaired", 0, IDLE, event(0, IMPAIRED, 0, 0));
        answers("greatest impaired", 1, two, event(1, IMPAIRED, MOST, 0));
        wrongAmounts(two, IMPAIRED, 0, -1, MOST + 1);
        badState("least restored: no wrong amount, but never more than the book", impaired, event(2, RESTORED, 0, 0));
        answers("greatest restored", 2, impaired, event(2, RESTORED, MOST, 0));
        wrongAmounts(impaired, RESTORED, 0, -1, MOST + 1);
        Setting held = and(IDLE, event(0, HELD, 0, 0));
        wrongAmounts(IDLE, SOLD, 5, 1, -1);
        wrongAmounts(IDLE, HELD, 0, 1, -1);
        wrongAmounts(held, RELEASED, 0, 1, -1);
        wrongNumbers(IDLE, MORE, 5, 1, -1);
        wrongNumbers(IDLE, VALUED, 5, 1, -1);
        wrongNumbers(IDLE, IMPAIRED, 5, 1, -1);
        wrongNumbers(impaired, RESTORED, 5, 1, -1);
        wrongNumbers(IDLE, HELD, 0, 1, -1);
        wrongNumbers(held, RELEASED, 0, 1, -1);
        answers("held", 0, IDLE, event(5, HELD, 0, 0));
        answers("released", 1, held, event(5, RELEASED, 0, 0));
    }

    private void wrongAmounts(Setting s, int kind, int n, long... wrong) {
        for (long v : wrong) {
            badArgument("kind " + kind + ", v " + v, s, event(5, kind, v, n));
        }
        badArgument("kind " + kind + ", least long", s, event(5, kind, Long.MIN_VALUE, n));
        badArgument("kind " + kind + ", greatest long", s, event(5, kind, Long.MAX_VALUE, n));
    }

    private void wrongNumbers(Setting s, int kind, long v, int... wrong) {
        for (int n : wrong) {
            badArgument("kind " + kind + ", n " + n, s, event(5, kind, v, n));
        }
        badArgument("kind " + kind + ", least int", s, event(5, kind, v, Integer.MIN_VALUE));
        badArgument("kind " + kind + ", greatest int", s, event(5, kind, v, Integer.MAX_VALUE));
    }

    private void start() {
        sentence("first its event, if there is one, then its charge");
        charges("in its first month", and(HUNDREDS, event(0, MORE, 1000, 0)), 0, 200, 200);
        charges("in its last month of life", and(HUNDREDS, event(9, MORE, 1000, 0)), 8, 100, 1100, 0);
        charges("held in its first month", and(HUNDREDS, event(0, HELD, 0, 0)), 0, 0, 0);
        charges("sold in its first month", and(HUNDREDS, event(0, SOLD, 0, MILLION)), 0, 0, 0);
        sentence("It has a cost, an ALLOWANCE (0 at first), a RESERVE (0), LOSSES (0), a residual, whether it is held"
            + " (not at first) or gone (not), a rest of life (its life at first)");
        Setting s = made(part(1000, 100, 3, 10, STRAIGHT, 0));
        values("before its first month", s, 2, 0, 0, 0, 0, 0, 0, 0);
        values("held in its first month", and(s, event(3, HELD, 0, 0)), 3, 1000, 0, 1000, 0, 0, 100, 10);
        values("behind its first month", s, 3, 1000, 90, 910, 0, 0, 100, 9);
        badState("not held at first", s, event(3, RELEASED, 0, 0));
    }

    private void stretches() {
        begins();
        sentence("it has a BASE (the book less the residual then, at least 0)");
        Setting s = made(part(1000, 500, 0, 10, STRAIGHT, 0));
        charges("a cent above", and(s, event(0, VALUED, 501, 0), event(1, OUTLOOK, 500, 1)), 0, 0, 1, 0);
        charges("just the residual", and(s, event(0, VALUED, 500, 0)), 0, 0, 0, 0);
        charges("a cent below", and(s, event(0, VALUED, 499, 0)), 0, 0, 0, 0);
        charges("all of it below", and(s, event(0, VALUED, 0, 0)), 0, 0, 0, 0, 0, 0, 0, 0, 0, 0, 0);
        Setting used = made(part(1000, 500, 0, 10, BY_UNITS, 3), units(0, 3));
        charges("by units, nothing left, a cent above", and(used, event(1, VALUED, 501, 0)), 0, 500, 1, 0);
        charges("by units, nothing left, a cent below", and(used, event(1, VALUED, 499, 0)), 0, 500, 0, 0);
        charges("by units, nothing left, nothing", and(used, event(1, VALUED, 0, 0)), 0, 500, 0, 0);
        Setting digits = made(part(1000, 500, 0, 2, DIGITS, 0));
        charges("digits, a cent below", and(digits, event(0, VALUED, 499, 0)), 0, 0, 0, 0);
        sentence("the rate less all units used in the months before that were charged, at least 0");
        Setting ten = made(part(1000, 0, 1, 10, BY_UNITS, 10), event(2, MORE, 1000, 0), units(2, 1));
        charges("one left: 900 are charged, and one is all", and(ten, units(1, 9)), 1, 900, 1100, 0);
        charges("two left: one is half", and(ten, units(1, 8)), 1, 800, 600, 0);
        charges("none left", and(ten, units(1, 10)), 1, 1000, 1000, 0);
        charges("less than none", and(ten, units(1, 11)), 1, 1000, 1000, 0);
        charges("the most too many", and(ten, units(1, MILLION)), 1, 1000, 1000, 0);
        charges("before its first month none is charged", and(ten, units(0, 9)), 1, 0, 200, 0);
        Setting two = made(part(1000, 0, 0, 10, BY_UNITS, 10), units(0, 4), event(2, MORE, 900, 0), units(2, 1));
        charges("all months before: one left", and(two, units(1, 5)), 0, 400, 500, 1000, 0);
        charges("all months before, in other stretches too", and(two, event(1, MORE, 60, 0), units(1, 4)), 0,
            400, 440, 560, 0);
        charges("its own month is not before", and(ten, units(2, 5)), 1, 0, 1000, 0);
        Setting held = made(part(1000, 0, 0, 10, BY_UNITS, 10), event(0, HELD, 0, 0), units(0, 9),
            event(1, RELEASED, 0, 0), event(2, MORE, 1000, 0), units(2, 1));
        charges("a held month is not charged", held, 0, 0, 0, 200, 0);
        Setting ended = made(part(1000, 0, 0, 1, BY_UNITS, 10), units(1, 9), event(2, OUTLOOK, 0, 5), units(2, 1));
        charges("a month without life is not charged", ended, 0, 0, 0, 100, 0);
        Setting idle = made(part(1000, 1000, 0, 9, BY_UNITS, 10), units(0, 9), event(1, MORE, 500, 0), units(1, 1));
        charges("a month with a charge of 0 is", idle, 0, 0, 500, 0);
    }

    private void begins() {
        sentence("A STRETCH begins in the first month and with each event of kind 0 to 5 (behind what that does)");
        // 1000, 900, 800 .. of 5500: the book is 3600 with 8 months to come
        Setting s = made(part(5500, 0, 0, 10, DIGITS, 0));
        charges("none", s, 0, 1000, 900, 800, 700);
        charges("more", and(s, event(2, MORE, 900, 0)), 2, 1000, 875);
        charges("outlook", and(s, event(2, OUTLOOK, 0, 2)), 2, 2400, 1200, 0);
        charges("valued", and(s, event(2, VALUED, 4500, 0)), 2, 1000, 875);
        Setting impaired = and(s, event(2, IMPAIRED, 1800, 0));
        charges("impaired", impaired, 2, 400, 350);
        charges("restored", and(impaired, event(3, RESTORED, 2800, 0)), 2, 400, 700, 600);
        charges("sold", and(s, event(2, SOLD, 0, 500000)), 2, 400, 350);
        // a base of 771 over 6 months would charge 129 in month 2
        Setting sevenths = made(part(1000, 100, 0, 7, STRAIGHT, 0), event(1, HELD, 0, 0));
        charges("held and released do not", and(sevenths, event(2, RELEASED, 0, 0)), 0, 129, 0, 128, 129);
        charges("valued at the book does", and(made(part(1000, 100, 0, 7, STRAIGHT, 0)), event(1, VALUED, 871, 0)),
            0, 129, 129, 128);
    }

    private void charges() {
        sentence("THE CHARGE of a month is 0 when it is held, gone, or the rest of life is 0.");
        Setting held = and(HUNDREDS, event(2, HELD, 0, 0), event(4, RELEASED, 0, 0));
        charges("held from its month on, until it is released", held, 1, 100, 0, 0, 100);
        values("life waits too", held, 3, 1000, 200, 800, 0, 0, 0, 8);
        Setting gone = and(HUNDREDS, event(2, SOLD, 0, MILLION));
        charges("gone from its month on", gone, 1, 100, 0, 0, 0);
        values("its life stays", gone, 35, 0, 0, 0, 0, 0, 0, 8);
        charges("the last month of life", HUNDREDS, 8, 100, 100, 0, 0);
        values("with one month of life", HUNDREDS, 8, 1000, 900, 100, 0, 0, 0, 1);
        values("with none", HUNDREDS, 9, 1000, 1000, 0, 0, 0, 0, 0);
        values("and no less", HUNDREDS, 35, 1000, 1000, 0, 0, 0, 0, 0);
        for (int method = 0; method < 4; method++) {
            Setting s = made(part(1000, 0, 0, 1, method, method % 2), units(1, 5), event(1, VALUED, 700, 0));
            charges("no life by method " + method, s, 1, 0, 0);
            Setting h = made(part(1000, 0, 0, 9, method, method % 2), units(0, 5), event(0, HELD, 0, 0));
            charges("held by method " + method, h, 0, 0, 0);
        }
        sentence("0: rounded base * k / length.");
        charges("to the last cent", made(part(1000, 100, 0, 7, STRAIGHT, 0)), 0, 129, 128, 129, 128, 129, 128, 129, 0);
        sentence("2: rounded base * (length + (length - 1) + .. , k of these) / (1 + .. + length).");
        charges("to the last cent", made(part(1000, 0, 0, 4, DIGITS, 0)), 0, 400, 300, 200, 100, 0);
        charges("one month", made(part(1000, 1, 0, 1, DIGITS, 0)), 0, 999, 0);
        // 666 parts: 36 of them first, one of them last
        charges("36 months", made(part(6660, 0, 0, 36, DIGITS, 0)), 0, 360, 350);
        charges("the last of them", made(part(6660, 0, 0, 36, DIGITS, 0)), 34, 20, 10);
        sentence("with u the units of the stretch's months that were charged, up to w, what was left of the rate"
            + " at its begin; all of the base if w is 0");
        Setting ten = made(part(1000, 0, 0, 5, BY_UNITS, 10), units(0, 4));
        charges("one less than w", and(ten, units(1, 5)), 0, 400, 500, 0);
        charges("just w", and(ten, units(1, 6)), 0, 400, 600, 0);
        charges("one more than w", and(ten, units(1, 7), units(2, 3)), 0, 400, 600, 0);
        charges("w in one month", and(ten, units(0, 10)), 0, 1000, 0);
        charges("more than w in one month", and(ten, units(0, 11)), 0, 1000, 0);
        charges("what is not used by the end of life stays", and(ten, units(5, 6)), 0, 400, 0, 0, 0, 0, 0);
        Setting none = made(part(1000, 0, 0, 5, BY_UNITS, 10), units(0, 10), event(1, MORE, 70, 0));
        charges("w is 0, and no unit is used", none, 0, 1000, 70, 0);
        charges("w is 0, and units are used", and(none, units(1, 5)), 0, 1000, 70, 0);
        charges("w is 0 in a held month", and(none, event(2, HELD, 0, 0), event(3, RELEASED, 0, 0)), 0, 1000, 70, 0, 0);
        charges("units of held months do not count", and(ten, event(1, HELD, 0, 0), units(1, 6),
            event(2, RELEASED, 0, 0)), 0, 400, 0, 0);
    }

    private void declining() {
        sentence("By method 1, if the book is not more than the residual, the charge is 0");
        Setting s = made(part(1000, 500, 0, 3, DECLINING, 1));
        charges("a cent more", and(s, event(2, VALUED, 501, 0)), 2, 1, 0);
        charges("a cent more, and by far more by the rate", and(made(part(1000, 500, 0, 3, DECLINING, MILLION)),
            event(0, VALUED, 501, 0)), 0, 1, 0, 0);
        charges("just the residual", and(s, event(0, VALUED, 500, 0)), 0, 0, 0, 0, 0);
        charges("a cent less", and(s, event(0, VALUED, 499, 0)), 0, 0, 0, 0, 0);
        charges("nothing", and(s, event(0, VALUED, 0, 0)), 0, 0, 0, 0, 0);
        values("life falls all the same", and(s, event(0, VALUED, 499, 0)), 1, 499, 0, 499, 0, 501, 500, 1);
        sentence("or rounded (book less residual) / (rest of life before it fell), whichever is more");
        charges("the rate is less", made(part(1000, 0, 0, 10, DECLINING, 99000)), 0, 100, 100);
        charges("the rate is as much", made(part(1000, 0, 0, 10, DECLINING, 100000)), 0, 100, 100);
        charges("the rate is more", made(part(1000, 0, 0, 10, DECLINING, 101000)), 0, 101, 100);
        charges("the rate is of the book, not of the base", made(part(1000, 500, 0, 10, DECLINING, 100000)), 0, 100, 90);
        sentence("but no more than the book less residual, and in the last month of life just that");
        charges("a cent less", made(part(1000, 900, 0, 9, DECLINING, 99000)), 0, 99, 1, 0);
        charges("just that", made(part(1000, 900, 0, 9, DECLINING, 100000)), 0, 100, 0);
        charges("a cent more", made(part(1000, 900, 0, 9, DECLINING, 101000)), 0, 100, 0);
        charges("all of it", made(part(1000, 900, 0, 9, DECLINING, MILLION)), 0, 100, 0);
        charges("the last month at the least rate", made(part(1000, 100, 0, 1, DECLINING, 1)), 0, 900, 0);
        charges("the last two", made(part(1000, 100, 0, 2, DECLINING, 1)), 0, 450, 450, 0);
        charges("a last month told by an outlook", and(made(part(1000, 100, 0, 9, DECLINING, 1)),
            event(1, OUTLOOK, 200, 1)), 0, 100, 700, 0);
    }

    private void events() {
        valued();
        sentence("IMPAIRED: reserve and losses as for VALUED; the allowance grows by how much.");
        Setting s = and(IDLE, event(0, VALUED, 500, 0), event(1, VALUED, 700, 0));
        values("a cent of the reserve stays", and(s, event(2, IMPAIRED, 501, 0)), 2, 700, 199, 501, 1, MOST - 500, 0, 33);
        values("just the reserve", and(s, event(2, IMPAIRED, 500, 0)), 2, 700, 200, 500, 0, MOST - 500, 0, 33);
        values("a cent more than it", and(s, event(2, IMPAIRED, 499, 0)), 2, 700, 201, 499, 0, MOST - 499, 0, 33);
        values("twice", and(s, event(2, IMPAIRED, 600, 0), event(3, IMPAIRED, 450, 0)), 3,
            700, 250, 450, 0, MOST - 450, 0, 32);
        sentence("RESTORED: the allowance and the losses fall by how much, the losses down to 0.");
        // of 275 that are lost, a reserve of 200 bears all but 75
        Setting w = and(HUNDREDS, event(2, VALUED, 1000, 0), event(3, IMPAIRED, 600, 0), event(4, HELD, 0, 0));
        values("before", w, 4, 1000, 125 + 275 + 86, 514, 0, 75, 0, 6);
        restored(w, 74, 1);
        restored(w, 75, 0);
        restored(w, 76, 0);
        sentence("with n = 10^6 the part is gone");
        Setting sold = and(HUNDREDS, event(2, VALUED, 1100, 0), event(3, SOLD, 0, MILLION));
        values("all of it", sold, 3, 0, 0, 0, 0, 0, 0, 7);
        badState("gone", sold, event(4, VALUED, 5, 0));
        Setting nearly = and(HUNDREDS, event(3, SOLD, 0, MILLION - 1));
        values("nearly all of it", nearly, 3, 0, 0, 0, 0, 0, 0, 6);
        answers("not gone", 1, nearly, event(4, VALUED, 5, 0));
        charges("so it is charged", and(nearly, event(4, VALUED, 60, 0)), 3, 0, 10, 10);
        keeps("losses stay", 400, and(HUNDREDS, event(1, VALUED, 500, 0), event(2, SOLD, 0, MILLION)),
            x -> x.value(0, 2, LOSSES));
        sentence("HELD, RELEASED: it is held, or not.");
        Setting held = and(HUNDREDS, event(1, HELD, 0, 0));
        charges("a sale in part leaves it held", and(held, event(2, SOLD, 0, 500000)), 0, 100, 0, 0, 0);
        charges("a release ends it", and(held, event(2, SOLD, 0, 500000), event(3, RELEASED, 0, 0)), 2, 0, 50, 50);
    }

    private void restored(Setting held, long gain, long losses) {
        // released in month 5, charged 514 / 6, and restored in month 6
        Setting s = and(held, event(5, RELEASED, 0, 0), x -> x.event(0, 6, RESTORED, x.value(0, 5, BOOK) + gain, 0));
        keeps("losses when " + gain + " are restored", losses, s, x -> x.value(0, 6, LOSSES));
        keeps("the reserve stays when " + gain + " are restored", 0, s, x -> x.value(0, 6, RESERVE));
        keeps("the cost stays when " + gain + " are restored", 1000, s, x -> x.value(0, 6, COST));
    }

    private void valued() {
        sentence("VALUED: when v is more than the book, the reserve grows by how much");
        values("a cent more", and(IDLE, event(0, VALUED, 500, 0), event(1, VALUED, 501, 0)), 1,
            501, 0, 501, 1, MOST - 500, 0, 34);
        values("just the book", and(IDLE, event(0, VALUED, 500, 0), event(1, VALUED, 500, 0)), 1,
            500, 0, 500, 0, MOST - 500, 0, 34);
        values("a cent less", and(IDLE, event(0, VALUED, 500, 0), event(1, VALUED, 499, 0)), 1,
            499, 0, 499, 0, MOST - 499, 0, 34);
        Setting s = and(IDLE, event(0, VALUED, 500, 0), event(1, VALUED, 700, 0));
        values("a reserve grows on", and(s, event(2, VALUED, 703, 0)), 2, 703, 0, 703, 203, MOST - 500, 0, 33);
        sentence("when it is less, the reserve falls by how much, down to 0, and what is more is added to the losses;"
            + " then the cost is v, the allowance 0");
        values("a cent of the reserve stays", and(s, event(2, VALUED, 501, 0)), 2, 501, 0, 501, 1, MOST - 500, 0, 33);
        values("just the reserve", and(s, event(2, VALUED, 500, 0)), 2, 500, 0, 500, 0, MOST - 500, 0, 33);
        values("a cent more than it", and(s, event(2, VALUED, 499, 0)), 2, 499, 0, 499, 0, MOST - 499, 0, 33);
        values("to nothing", and(s, event(2, VALUED, 0, 0)), 2, 0, 0, 0, 0, MOST, 0, 33);
        values("the allowance goes", and(HUNDREDS, event(3, VALUED, 700, 0)), 3, 700, 100, 600, 0, 0, 0, 6);
        values("the allowance goes into no reserve", and(HUNDREDS, event(10, VALUED, 0, 0)), 10, 0, 0, 0, 0, 0, 0, 0);
    }

    private void breaches() {
        goneBreach();
        residualBreach();
        sentence("MORE with no rest of life");
        answers("in the last month of life", 0, HUNDREDS, event(9, MORE, 5, 0));
        badState("in the month behind it", HUNDREDS, event(10, MORE, 5, 0));
        badState("in the last month of all", HUNDREDS, event(35, MORE, 5, 0));
        answers("with a new life", 1, and(HUNDREDS, event(10, OUTLOOK, 0, 2)), event(11, MORE, 5, 0));
        badState("behind a new life", and(HUNDREDS, event(10, OUTLOOK, 0, 2)), event(12, MORE, 5, 0));
        impairedBreach();
        restoredBreach();
        bareBreach();
        heldBreach();
    }

    private void goneBreach() {
        sentence("an event of a part that is gone");
        Setting gone = and(HUNDREDS, event(3, SOLD, 0, MILLION));
        Setting there = and(HUNDREDS, event(3, SOLD, 0, MILLION - 1));
        for (int kind : new int[] {MORE, OUTLOOK, VALUED, IMPAIRED, RESTORED, SOLD, HELD, RELEASED}) {
            long v = kind == MORE || kind == RESTORED ? 5 : 0;
            int n = kind == OUTLOOK || kind == SOLD ? 5 : 0;
            badState("kind " + kind, gone, event(4, kind, v, n));
            badState("kind " + kind + " in the last month", gone, event(35, kind, v, n));
        }
        answers("before it is gone", 1, gone, event(2, VALUED, 5, 0));
        answers("not gone", 1, there, event(4, OUTLOOK, 0, 5));
        badState("a late sale of all before another event", there, event(2, SOLD, 0, MILLION));
        answers("a late sale of nearly all", 1, there, event(2, SOLD, 0, MILLION - 1));
        Setting heldThenGone = and(HUNDREDS, event(3, HELD, 0, 0), event(4, SOLD, 0, MILLION));
        badState("held and gone is not released", heldThenGone, event(5, RELEASED, 0, 0));
    }

    private void residualBreach() {
        sentence("MORE, OUTLOOK or RESTORED when the residual is above the book behind it");
        Setting low = made(part(1000, 500, 0, 10, STRAIGHT, 0), event(1, IMPAIRED, 100, 0));
        badState("more, a cent too little", low, event(2, MORE, 399, 0));
        answers("more, just enough", 1, low, event(2, MORE, 400, 0));
        badState("restored, a cent too little", low, event(2, RESTORED, 499, 0));
        answers("restored, just enough", 1, low, event(2, RESTORED, 500, 0));
        badState("outlook, a cent too much", HUNDREDS, event(1, OUTLOOK, 901, 5));
        answers("outlook, just the book", 0, HUNDREDS, event(1, OUTLOOK, 900, 5));
        answers("outlook, behind its first month a charge more", 0, HUNDREDS, event(0, OUTLOOK, 1000, 5));
        badState("outlook in its first month, a cent too much", HUNDREDS, event(0, OUTLOOK, 1001, 5));
        answers("outlook in place of a residual that is above the book", 1, low, event(2, OUTLOOK, 100, 5));
        badState("but no more than the book", low, event(2, OUTLOOK, 101, 5));
        answers("valued below the residual is none", 1, low, event(2, VALUED, 1, 0));
        answers("impaired below the residual is none", 1, low, event(2, IMPAIRED, 1, 0));
        answers("sold below the residual is none", 1, low, event(2, SOLD, 0, 5));
        answers("held below the residual is none", 1, low, event(2, HELD, 0, 0));
    }

    private void impairedBreach() {
        sentence("3 IMPAIRED: the book becomes v, which is less than it is.");
        answers("a cent less", 0, HUNDREDS, event(1, IMPAIRED, 899, 0));
        badState("just the book", HUNDREDS, event(1, IMPAIRED, 900, 0));
        badState("a cent more", HUNDREDS, event(1, IMPAIRED, 901, 0));
        answers("to nothing", 0, HUNDREDS, event(1, IMPAIRED, 0, 0));
        badState("a book of nothing", HUNDREDS, event(10, IMPAIRED, 0, 0));
        answers("in its first month the whole cost is the book", 0, HUNDREDS, event(0, IMPAIRED, 999, 0));
        badState("the whole cost", HUNDREDS, event(0, IMPAIRED, 1000, 0));
    }

    private void restoredBreach() {
        sentence("4 RESTORED: the book becomes v, which is more than it is, but not more than what it would be"
            + " at that point if there were no events of kinds 3 and 4 of this part.");
        Setting s = made(part(120000, 0, 0, 12, STRAIGHT, 0), event(3, IMPAIRED, 50000, 0),
            part(120000, 0, 0, 24, STRAIGHT, 0));
        // before the charge of month 5 the book is 38889, and the bare one 70000
        badState("just the book", s, event(5, RESTORED, 38889, 0));
        answers("a cent more", 1, s, event(5, RESTORED, 38890, 0));
        answers("just the bare book, before that month's charge", 1, s, event(5, RESTORED, 70000, 0));
        badState("a cent more than it", s, event(5, RESTORED, 70001, 0));
        badState("the month of the impairing is full", s, event(3, RESTORED, 60000, 0));
        badState("before anything was impaired", s, event(2, RESTORED, 100001, 0));
        badState("nor what the book is", s, event(2, RESTORED, 100000, 0));
        badState("another part is not impaired", s, x -> x.event(1, 5, RESTORED, 95001, 0));
        Setting twice = and(s, event(5, RESTORED, 50000, 0));
        // the book is 50000 - 7143, the bare one 60000
        answers("restored once more", 2, twice, event(6, RESTORED, 60000, 0));
        badState("a former one adds nothing", twice, event(6, RESTORED, 60001, 0));
        answers("a cent more than the book", 2, twice, event(6, RESTORED, 42858, 0));
        badState("just the book once more", twice, event(6, RESTORED, 42857, 0));
        sentence("RESTORED by more than the allowance");
        Setting idle = and(IDLE, event(0, IMPAIRED, 400, 0));
        values("by all of it", and(idle, event(1, RESTORED, MOST, 0)), 1, MOST, 0, MOST, 0, 0, 0, 34);
        values("by all but a cent", and(idle, event(1, RESTORED, MOST - 1, 0)), 1, MOST, 1, MOST - 1, 0, 1, 0, 34);
        Setting small = made(part(1000, 0, 0, 10, BY_UNITS, 9), event(0, IMPAIRED, 400, 0));
        badState("by more", small, event(1, RESTORED, 1001, 0));
    }

    /** 10 cents in 8 months: rounding leaves the book 3 and the bare one 2 behind month 5. */
    private void bareBreach() {
        sentence("RESTORED also when, without the events of kinds 3 and 4, some other one up to then would be a breach");
        Setting apart = made(part(10, 0, 0, 8, STRAIGHT, 0), event(1, IMPAIRED, 8, 0), event(5, RESTORED, 4, 0));
        Setting outlook = and(apart, event(6, OUTLOOK, 3, 9));
        Setting sound = and(apart, event(6, OUTLOOK, 2, 9));
        keeps("a sound one", 2, sound, x -> x.without(0, 6));
        keeps("none", NONE, outlook, x -> x.without(0, 6));
        Setting again = and(outlook, event(7, VALUED, 100, 0), event(8, IMPAIRED, 50, 0));
        Setting soundAgain = and(sound, event(7, VALUED, 100, 0), event(8, IMPAIRED, 50, 0));
        badState("the next month", again, event(9, RESTORED, 44, 0));
        badState("the last month", again, event(35, RESTORED, 44, 0));
        answers("when it is sound", 5, soundAgain, event(9, RESTORED, 44, 0));
        answers("one before it stands, up to then all is sound", 2, apart, event(6, OUTLOOK, 3, 9));
        answers("other kinds than RESTORED", 5, again, event(9, IMPAIRED, 40, 0));
        Setting anew = and(outlook, event(7, OUTLOOK, 0, 9), event(8, VALUED, 100, 0), event(9, IMPAIRED, 50, 0));
        badState("one that came right again was a breach", anew, event(10, RESTORED, 75, 0));
        answers("when it is struck", 6, and(anew, strike(2)), event(10, RESTORED, 75, 0));
        badState("when it is struck, by a cent too much", and(anew, strike(2)), event(10, RESTORED, 76, 0));
    }

    private void heldBreach() {
        sentence("HELD when it is held, RELEASED when it is not; an event other than RELEASED or SOLD when it is held");
        Setting held = and(HUNDREDS, event(1, IMPAIRED, 600, 0), event(3, HELD, 0, 0));
        badState("more", held, event(4, MORE, 5, 0));
        badState("outlook", held, event(4, OUTLOOK, 0, 5));
        badState("valued", held, event(4, VALUED, 5, 0));
        badState("impaired", held, event(4, IMPAIRED, 5, 0));
        badState("restored", held, event(4, RESTORED, 600, 0));
        badState("held", held, event(4, HELD, 0, 0));
        answers("sold", 2, held, event(4, SOLD, 0, 5));
        answers("all sold", 2, held, event(4, SOLD, 0, MILLION));
        answers("released", 2, held, event(4, RELEASED, 0, 0));
        badState("more behind a sale", and(held, event(4, SOLD, 0, 5)), event(5, MORE, 5, 0));
        answers("released behind a sale", 3, and(held, event(4, SOLD, 0, 5)), event(5, RELEASED, 0, 0));
        badState("released twice", and(held, event(4, RELEASED, 0, 0)), event(5, RELEASED, 0, 0));
        badState("released at first", HUNDREDS, event(0, RELEASED, 0, 0));
        answers("restored when it is released", 3, and(held, event(4, RELEASED, 0, 0)), event(5, RESTORED, 600, 0));
        answers("held again", 3, and(held, event(4, RELEASED, 0, 0)), event(5, HELD, 0, 0));
        badState("held before it is held", held, event(2, HELD, 0, 0));
        badState("released before it is held", held, event(2, RELEASED, 0, 0));
    }

    private void posting() {
        sentence("each part whose first month is not later gets what its charges up to that month are together");
        Setting s = made(part(1000, 0, 2, 10, STRAIGHT, 0));
        answers("its first month is later", 0, s, post(2));
        answers("its first month", 100, s, post(3));
        answers("the next", 100, s, post(4));
        answers("its last month of life", 100, s, post(12));
        answers("the month behind", 0, s, post(13));
        keeps("nothing before its first month", 0, and(s, post(3)), x -> x.posted(0, 1));
        keeps("that month", 100, and(s, post(3)), x -> x.posted(0, 2));
        answers("part by part, up to the month that is posted", 300, and(s, part(600, 0, 3, 3, STRAIGHT, 0),
            part(7, 0, 4, 1, STRAIGHT, 0)), post(4));
        answers("an event to come counts not yet", 100, and(s, event(3, OUTLOOK, 0, 1)), post(3));
        answers("in its month it does", 900, and(s, event(3, OUTLOOK, 0, 1)), post(4));
        sentence("by what is known then, less what was posted for it up to now (that may be below 0)");
        Setting four = and(s, post(4));
        answers("a late event takes back", -200, and(four, event(2, HELD, 0, 0)), post(1));
        answers("just what was posted too much", 0, and(four, event(3, HELD, 0, 0), event(4, RELEASED, 0, 0)), post(1));
        keeps("the total is that", 0, and(four, event(2, HELD, 0, 0), post(1)), x -> x.total(0));
        keeps("what was posted stays", 100, and(four, event(2, HELD, 0, 0), post(1)), x -> x.posted(0, 3));
        keeps("below 0", -200, and(four, event(2, HELD, 0, 0), post(1)), x -> x.posted(0, 4));
        answers("all comes back when it is struck", 400, and(four, event(2, HELD, 0, 0), post(1), strike(0)), post(1));
        answers("all of a part that came late", 900, and(four, part(800, 0, 0, 4, STRAIGHT, 0)), post(1));
        answers("what is impaired is no charge", 50, and(four, event(4, IMPAIRED, 400, 0)), post(1));
        answers("nor what is restored", 100, and(four, event(4, IMPAIRED, 400, 0), event(5, RESTORED, 700, 0)), post(2));
        answers("nor what is valued", 125, and(four, event(4, VALUED, 1000, 0)), post(1));
        answers("nor what is sold", 0, and(four, event(4, SOLD, 0, MILLION)), post(1));
        answers("late units", 1000 + 100, and(four, part(1000, 0, 0, 9, BY_UNITS, 5), x -> x.units(1, 1, 5)), post(1));
    }

    private void calls() {
        sentence("the one named first when several would do; a call that throws, or is refused, changes nothing");
        Setting six = HUNDREDS;
        for (int i = 0; i < 5; i++) {
            six = and(six, part(70, 0, 0, 7, STRAIGHT, 0));
        }
        badArgument("part: no cost, and there are 6", six, part(0, 0, 0, 1, STRAIGHT, 0));
        badArgument("part: no rate, and there are 6", six, part(5, 0, 0, 1, BY_UNITS, 0));
        Setting used = made(part(1000, 0, 0, 10, BY_UNITS, 100), event(3, IMPAIRED, 500, 0));
        badState("units: a breach", used, units(1, 50));
        badArgument("units: too many, and a breach", used, units(1, MILLION + 1));
        Setting busy = and(HUNDREDS, event(4, HELD, 0, 0));
        badArgument("event: n, and the month has one", busy, event(4, VALUED, 5, 5));
        badArgument("event: v, and a breach", busy, event(5, RELEASED, 5, 0));
        badArgument("event: no kind, and a breach", busy, event(5, 8, 0, 0));
        Setting eight = HUNDREDS;
        for (int month = 0; month < 8; month++) {
            eight = and(eight, event(month, SOLD, 0, 5));
        }
        badArgument("event: v, and there are 8", eight, event(9, SOLD, 1, 5));
        badArgument("event: no month, and there are 8", eight, event(36, SOLD, 0, 5));
    }
}
