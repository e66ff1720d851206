/** The edges that the promises 1 to 14 name, sentence by sentence. */
public final class PromiseEdgesTest extends Edges {
    private static final int[] NO_PARTS = {-1, 2, 6, Integer.MIN_VALUE, Integer.MAX_VALUE};
    private static final int[] FAR_INTS = {Integer.MIN_VALUE, Integer.MAX_VALUE};

    private static final Setting EMPTY = made();

    /** 100 cents a month from month 2 on, and a part that waits for its units. */
    private static final Setting TWO = made(part(1000, 0, 2, 10, STRAIGHT, 0), part(1000, 100, 4, 10, BY_UNITS, 100));

    /** Four months are posted, one of three events is struck, and units are told. */
    private static final Setting BUSY = and(TWO, event(3, IMPAIRED, 450, 0), event(5, RESTORED, 500, 0),
        x -> x.event(1, 6, OUTLOOK, 50, 12), strike(1), x -> x.units(1, 5, 40), post(4));

    private PromiseEdgesTest() {
        super("PromiseEdgesTest");
    }

    public static void main(String[] args) {
        PromiseEdgesTest test = new PromiseEdgesTest();
        test.use();
        test.newObject();
        test.part();
        test.units();
        test.event();
        test.eventNumbers();
        test.eventArguments();
        test.eventStates();
        test.strike();
        test.told();
        test.value();
        test.charge();
        test.without();
        test.post();
        test.months();
        test.posted();
        test.total();
        test.parts();
        test.end();
    }

    private void use() {
        sentence("An object is used for at most 512 calls after it has been made");
        Setting long511 = made(part(1000, 0, 0, 10, STRAIGHT, 0), event(0, MORE, 10, 0), strike(0), x -> {
            for (int i = 0; i < 508; i++) {
                x.units(0, i % 36, 1 + i / 36);
            }
            return 0;
        });
        answers("an event is the 512th", 1, long511, event(0, MORE, 10, 0));
        answers("an asking is the 512th", 100, long511, x -> x.charge(0, 9));
        answers("units are the 512th", 15, long511, units(3, 7));
        answers("a post is the 512th", 100, long511, post(1));
        answers("a part is the 512th", 1, long511, part(1, 0, 0, 1, STRAIGHT, 0));
    }

    private void newObject() {
        sentence("No parts; nothing is posted.");
        answers("NONE", -1, EMPTY, x -> AgedAssets.NONE);
        keeps("no parts", 0, EMPTY, x -> x.parts());
        keeps("nothing is posted", 0, EMPTY, x -> x.months());
        for (int part : new int[] {0, -1, 5, 6, Integer.MIN_VALUE, Integer.MAX_VALUE}) {
            noPart(EMPTY, part);
        }
        keeps("no event", NONE, EMPTY, x -> x.told(0, 0));
        keeps("none to strike", 0, EMPTY, strike(0));
        answers("a month is posted all the same", 1, and(EMPTY, post(1)), x -> x.months());
        answers("the first part", 0, EMPTY, part(1, 0, 0, 1, STRAIGHT, 0));
    }

    private void noPart(Setting s, int part) {
        String at = "part " + part + ": ";
        badArgument(at + "units", s, x -> x.units(part, 4, 0));
        badArgument(at + "event", s, x -> x.event(part, 4, SOLD, 0, 5));
        badArgument(at + "value", s, x -> x.value(part, 4, COST));
        badArgument(at + "charge", s, x -> x.charge(part, 4));
        badArgument(at + "without", s, x -> x.without(part, 4));
        badArgument(at + "posted", s, x -> x.posted(part, 4));
        badArgument(at + "total", s, x -> x.total(part));
    }

    private void part() {
        sentence("A part comes. Answers its number (its first month may be posted already).");
        answers("the third", 2, BUSY, part(1, 0, 0, 1, STRAIGHT, 0));
        for (int posted : new int[] {0, 1, 35, 36}) {
            Setting s = and(EMPTY, post(posted), part(70, 0, 0, 7, STRAIGHT, 0));
            keeps("nothing is posted for it yet, after " + posted, 0, s, x -> x.total(0));
            keeps("it is reckoned all the same, after " + posted, 10, s, x -> x.charge(0, 0));
        }
        answers("its first month is the last that was posted", 20, and(EMPTY, post(3), part(70, 0, 2, 7, STRAIGHT, 0)), post(1));
        answers("its first month is the next", 10, and(EMPTY, post(3), part(70, 0, 3, 7, STRAIGHT, 0)), post(1));
        answers("its first month is the one behind", 0, and(EMPTY, post(3), part(70, 0, 4, 7, STRAIGHT, 0)), post(1));
        answers("all with the last post", 70, and(EMPTY, post(35), part(70, 0, 0, 7, STRAIGHT, 0)), post(1));
        sentence("IllegalArgumentException: cost, residual, month, life, method or rate is not as it must be;"
            + " IllegalStateException: there are 6.");
        badArgument("cost", BUSY, part(0, 0, 0, 1, STRAIGHT, 0));
        badArgument("residual", BUSY, part(5, 6, 0, 1, STRAIGHT, 0));
        badArgument("residual of a wrong cost", BUSY, part(-5, -6, 0, 1, STRAIGHT, 0));
        badArgument("month", BUSY, part(5, 0, 36, 1, STRAIGHT, 0));
        badArgument("life", BUSY, part(5, 0, 0, 37, STRAIGHT, 0));
        badArgument("life beyond the last month is none, but above 36 it is", BUSY, part(5, 0, 35, 37, STRAIGHT, 0));
        answers("a life beyond the last month", 2, BUSY, part(5, 0, 35, 36, STRAIGHT, 0));
        badArgument("method", BUSY, part(5, 0, 0, 1, 4, 0));
        badArgument("rate", BUSY, part(5, 0, 0, 1, DECLINING, 0));
        Setting six = and(BUSY, part(5, 0, 0, 1, STRAIGHT, 0), part(6, 0, 0, 1, STRAIGHT, 0), part(7, 0, 0, 1, STRAIGHT, 0));
        answers("the sixth", 5, six, part(8, 0, 35, 36, DECLINING, 1));
        Setting full = and(six, part(8, 0, 35, 36, DECLINING, 1));
        badState("a seventh", full, part(8, 0, 35, 36, DECLINING, 1));
        badArgument("a wrong seventh", full, part(8, 9, 35, 36, DECLINING, 1));
    }

    private void units() {
        sentence("So many units of a part (of any method) were used in a month (any), in place of what was told before.");
        for (int method = 0; method < 4; method++) {
            Setting s = made(part(1000, 0, 5, 3, method, method % 2), units(6, 3));
            answers("told before, method " + method, 3, s, units(6, 4));
            answers("before its first month, method " + method, 0, s, units(4, 4));
            answers("behind its life, method " + method, 0, s, units(8, 4));
            Setting gone = and(s, event(5, SOLD, 0, MILLION));
            answers("when it is gone, method " + method, 3, gone, units(6, 4));
        }
        keeps("told again as it was", 40, BUSY, x -> x.units(1, 5, 40));
        answers("told twice", 7, and(BUSY, x -> x.units(1, 5, 7)), x -> x.units(1, 5, 9));
        answers("of a posted month", 0, BUSY, x -> x.units(1, 2, 9));
        charges("in place of what was told", made(part(100, 0, 0, 9, BY_UNITS, 100), units(0, 30), units(0, 20)), 0, 20);
        sentence("IllegalArgumentException: there is no such part or month, or so many units can't be;"
            + " IllegalStateException: some event would be a breach then.");
        for (int part : NO_PARTS) {
            badArgument("part " + part, BUSY, x -> x.units(part, 5, 0));
        }
        for (int month : NO_MONTHS) {
            badArgument("month " + month, BUSY, x -> x.units(1, month, 0));
        }
        for (int many : new int[] {-1, MILLION + 1, Integer.MIN_VALUE, Integer.MAX_VALUE}) {
            badArgument("units " + many, BUSY, x -> x.units(1, 5, many));
        }
        unitsBreach();
    }

    /** A cent less of charge for each tenth of a unit: what is impaired must stay less than the book. */
    private void unitsBreach() {
        Setting s = made(part(1000, 0, 0, 10, BY_UNITS, 100), units(0, 10), event(3, IMPAIRED, 500, 0));
        answers("a breach but for a unit", 0, s, units(1, 39));
        badState("a breach", s, units(1, 40));
        badState("by far a breach", s, units(2, MILLION));
        badState("more than before", s, units(0, 50));
        answers("as many less", 10, s, units(0, 49));
        answers("in the event's month they are behind it", 0, s, units(3, MILLION));
        Setting outlook = made(part(1000, 0, 0, 10, BY_UNITS, 100), event(3, OUTLOOK, 500, 5));
        answers("the residual just the book", 0, outlook, units(2, 50));
        badState("the residual above the book", outlook, units(2, 51));
        Setting more = made(part(1000, 200, 0, 10, BY_UNITS, 100), event(1, IMPAIRED, 150, 0), event(2, MORE, 60, 0),
            event(5, IMPAIRED, 205, 0));
        answers("the book above the residual is charged", 0, more, units(2, 40));
        badState("it falls to what it was impaired to", more, units(2, 50));
        Setting restored = made(part(1000, 0, 0, 10, BY_UNITS, 100), event(1, IMPAIRED, 400, 0), event(3, RESTORED, 900, 0));
        answers("the bare book just what is restored", 0, restored, units(0, 10));
        badState("the bare book less than what is restored", restored, units(0, 11));
        badState("the bare book alone in the month of the impairing", restored, units(1, 11));
    }

    private void event() {
        sentence("An event comes, late or not.");
        for (int posted : new int[] {0, 3, 4, 36}) {
            Setting s = and(TWO, post(posted));
            answers("when so many months are posted: " + posted, 0, s, event(3, IMPAIRED, 50, 0));
            keeps("and it is reckoned: " + posted, 50 - 6, and(s, event(3, IMPAIRED, 50, 0)), x -> x.value(0, 3, BOOK));
        }
        answers("before another one", 3, BUSY, event(2, MORE, 5, 0));
        answers("behind another one", 3, BUSY, event(4, MORE, 5, 0));
    }

    private static Setting forty(int many) {
        Setting s = made();
        for (int i = 0; i < 6; i++) {
            s = and(s, part(1000, 0, 0, 20, STRAIGHT, 0));
        }
        for (int i = 0; i < many; i++) {
            int part = i / 7;
            int month = i % 7;
            s = and(s, x -> x.event(part, month, SOLD, 0, 5));
        }
        return s;
    }

    private void eventNumbers() {
        sentence("Answers its number: events are numbered from 0 as they come, also those that were struck"
            + " (which count among the 40, not among the 8 of a part); at most 40.");
        answers("the first", 0, TWO, x -> x.event(1, 20, SOLD, 0, 5));
        answers("a struck one keeps its number", 3, BUSY, event(5, SOLD, 0, 5));
        answers("the last one struck too", 3, and(BUSY, strike(2)), event(5, SOLD, 0, 5));
        answers("a refused one has none", 3, and(BUSY, x -> refusedEvent(x)), event(5, SOLD, 0, 5));
        answers("the fortieth", 39, forty(39), x -> x.event(5, 20, SOLD, 0, 5));
        badState("one more", forty(40), x -> x.event(5, 20, SOLD, 0, 5));
        badState("one more of an empty part", and(forty(35), x -> eighths(x)), x -> x.event(5, 20, SOLD, 0, 5));
        badState("when one is struck", and(forty(40), strike(39)), x -> x.event(5, 20, SOLD, 0, 5));
        badState("when all are struck", and(forty(40), x -> strikeAll(x)), x -> x.event(5, 20, SOLD, 0, 5));
        badArgument("a wrong one", forty(40), x -> x.event(5, 20, SOLD, 1, 5));
        Setting two = made(part(1000, 0, 0, 20, STRAIGHT, 0));
        for (int i = 0; i < 39; i++) {
            two = and(two, event(4, SOLD, 0, 5), strike(i));
        }
        answers("the fortieth behind struck ones of a part", 39, two, event(4, SOLD, 0, 5));
        badState("one more behind struck ones", and(two, event(4, SOLD, 0, 5)), event(5, SOLD, 0, 5));
        Setting eight = made(part(1000, 0, 0, 20, STRAIGHT, 0), x -> eight(x));
        badState("a ninth", eight, event(9, SOLD, 0, 5));
        answers("a ninth when one is struck", 8, and(eight, strike(7)), event(9, SOLD, 0, 5));
        badState("a tenth then", and(eight, strike(7), event(9, SOLD, 0, 5)), event(10, SOLD, 0, 5));
    }

    private static long refusedEvent(AgedAssets x) {
        try {
            return x.event(0, 5, RELEASED, 0, 0);
        } catch (IllegalStateException e) {
            return NONE;
        }
    }

    private static long eight(AgedAssets x) {
        for (int i = 0; i < 8; i++) {
            x.event(0, 10 + i, SOLD, 0, 5);
        }
        return 8;
    }

    /** The eighth events of the parts 0 to 4. */
    private static long eighths(AgedAssets x) {
        for (int part = 0; part < 5; part++) {
            x.event(part, 10, SOLD, 0, 5);
        }
        return 5;
    }

    private static long strikeAll(AgedAssets x) {
        for (int i = 0; i < 40; i++) {
            x.strike(i);
        }
        return 40;
    }

    private void eventArguments() {
        sentence("IllegalArgumentException: there is no such part or kind, the month is none or before the part's"
            + " first one, or v or n is not as it must be");
        for (int part : NO_PARTS) {
            badArgument("part " + part, BUSY, x -> x.event(part, 5, SOLD, 0, 5));
        }
        for (int kind : new int[] {-1, 8, Integer.MIN_VALUE, Integer.MAX_VALUE}) {
            badArgument("kind " + kind, BUSY, event(5, kind, 0, 0));
            badArgument("kind and v " + kind, BUSY, event(5, kind, 5, 0));
            badArgument("kind and n " + kind, BUSY, event(5, kind, 0, 5));
        }
        for (int month : NO_MONTHS) {
            badArgument("month " + month, BUSY, event(month, SOLD, 0, 5));
        }
        badArgument("the month before its first one", BUSY, event(1, SOLD, 0, 5));
        badArgument("another part's first month", BUSY, x -> x.event(1, 2, SOLD, 0, 5));
        answers("its first month", 3, BUSY, event(2, SOLD, 0, 5));
        answers("the other's first month", 3, BUSY, x -> x.event(1, 4, SOLD, 0, 5));
        badArgument("v", BUSY, event(5, MORE, 0, 0));
        badArgument("n", BUSY, event(5, OUTLOOK, 0, 0));
    }

    private void eventStates() {
        sentence("IllegalStateException: the part has an event in that month, or 8, there were 40, or this one,"
            + " or a later one of the part then, would be a breach.");
        badState("in that month", BUSY, event(3, SOLD, 0, 5));
        answers("in a struck one's month", 3, BUSY, event(5, SOLD, 0, 5));
        badState("this one", BUSY, event(5, IMPAIRED, 450, 0));
        Setting impaired = and(TWO, event(7, IMPAIRED, 450, 0));
        // the book is 500 before month 7: nine tenths of it are just 450
        badState("a later one: the book is what it was impaired to", impaired, event(4, SOLD, 0, 100000));
        answers("a cent more than it", 1, impaired, event(4, SOLD, 0, 98000));
        badState("a later one, from the month before it", impaired, event(6, VALUED, 540, 0));
        answers("from the month before it, a cent more", 1, impaired, event(6, VALUED, 542, 0));
        answers("an earlier one is never touched", 1, impaired, event(8, VALUED, 5, 0));
        Setting restored = and(TWO, event(4, IMPAIRED, 400, 0), event(6, RESTORED, 600, 0));
        badState("a later one: the bare book is less", restored, event(3, VALUED, 899, 0));
        answers("just what is restored", 2, restored, event(3, VALUED, 900, 0));
        badState("a later one: the book is just what is restored", restored, event(5, VALUED, 700, 0));
        badState("a later one in the last month", and(TWO, event(35, HELD, 0, 0)), event(34, HELD, 0, 0));
        badState("held before another kind", and(TWO, event(35, VALUED, 5, 0)), event(2, HELD, 0, 0));
        answers("held before a sale", 1, and(TWO, event(35, SOLD, 0, 5)), event(2, HELD, 0, 0));
        badState("all sold before another", and(TWO, event(35, SOLD, 0, 5)), event(2, SOLD, 0, MILLION));
        badState("no life before more", and(TWO, event(11, MORE, 5, 0)), event(10, OUTLOOK, 0, 1));
        answers("just enough life before more", 1, and(TWO, event(11, MORE, 5, 0)), event(10, OUTLOOK, 0, 2));
        answers("another part's events do not matter", 1, impaired, x -> x.event(1, 4, SOLD, 0, MILLION));
    }

    private void strike() {
        sentence("An event is taken back. Answers true; false when there is none such (any more),"
            + " or a later one of the part would be a breach then.");
        answers("the first", 1, BUSY, strike(0));
        answers("the last", 1, BUSY, strike(2));
        keeps("struck already", 0, BUSY, strike(1));
        keeps("none yet", 0, BUSY, strike(3));
        for (int event : new int[] {-1, 39, 40, Integer.MIN_VALUE, Integer.MAX_VALUE}) {
            keeps("none such: " + event, 0, BUSY, strike(event));
        }
        keeps("none behind the last", 0, forty(40), strike(40));
        answers("the last of all", 1, forty(40), strike(39));
        keeps("the last of all, twice", 0, and(forty(40), strike(39)), strike(39));
        Setting restored = and(TWO, event(3, IMPAIRED, 500, 0), event(5, RESTORED, 650, 0));
        keeps("nothing would be to restore", 0, restored, strike(0));
        answers("the later one", 1, restored, strike(1));
        answers("and then the earlier one", 1, and(restored, strike(1)), strike(0));
        Setting held = and(TWO, event(3, HELD, 0, 0), event(5, RELEASED, 0, 0), event(34, HELD, 0, 0), event(35, SOLD, 0, 5));
        keeps("nothing would be to release", 0, held, strike(0));
        keeps("it would be held twice", 0, held, strike(1));
        answers("a sale may be of what is not held", 1, held, strike(2));
        Setting life = and(TWO, event(12, OUTLOOK, 0, 3), event(13, MORE, 60, 0));
        keeps("more would have no life", 0, life, strike(0));
        Setting sold = and(TWO, event(3, SOLD, 0, 500000), event(5, IMPAIRED, 349, 0));
        answers("the book would be more than it is impaired to", 1, sold, strike(0));
        Setting more = and(TWO, event(3, MORE, 90, 0), event(5, IMPAIRED, 769, 0));
        answers("the book is 770 then, a cent more", 1, and(TWO, event(3, MORE, 90, 0)), event(5, IMPAIRED, 769, 0));
        keeps("the book would be less than it is impaired to", 0, more, strike(0));
        Setting edge = and(TWO, event(3, MORE, 90, 0), event(5, IMPAIRED, 699, 0));
        answers("the book would be a cent more than it is impaired to", 1, edge, strike(0));
        Setting just = and(TWO, event(3, MORE, 90, 0), event(5, IMPAIRED, 700, 0));
        keeps("the book would be just what it is impaired to", 0, just, strike(0));
        answers("another part's event", 1, and(just, x -> x.event(1, 4, MORE, 5, 0)), strike(2));
        answers("when the month is posted", 1, and(BUSY, post(32)), strike(0));
    }

    private void told() {
        sentence("Of an event that is not struck: what = 0 its part, 1 its month, 2 its kind, 3 n (v is not told);"
            + " NONE when there is no such event or what.");
        long[] want = {1, 6, OUTLOOK, 12};
        for (int what = 0; what < 4; what++) {
            int of = what;
            keeps("what " + what, want[what], BUSY, x -> x.told(2, of));
            keeps("struck, what " + what, NONE, BUSY, x -> x.told(1, of));
            keeps("not come yet, what " + what, NONE, BUSY, x -> x.told(3, of));
            for (int event : new int[] {-1, 39, 40, Integer.MIN_VALUE, Integer.MAX_VALUE}) {
                keeps("event " + event + ", what " + what, NONE, BUSY, x -> x.told(event, of));
            }
        }
        for (int what : new int[] {-1, 4, Integer.MIN_VALUE, Integer.MAX_VALUE}) {
            keeps("what " + what, NONE, BUSY, x -> x.told(2, what));
        }
        keeps("n is 0", 0, BUSY, x -> x.told(0, 3));
        keeps("the last of all", 5, forty(40), x -> x.told(39, 3));
        keeps("behind the last of all", NONE, forty(40), x -> x.told(40, 3));
        keeps("greatest n", MILLION, and(TWO, event(35, SOLD, 0, MILLION)), x -> x.told(0, 3));
        keeps("last month", 35, and(TWO, event(35, SOLD, 0, MILLION)), x -> x.told(0, 1));
        keeps("a refused strike leaves it told", HELD, and(TWO, event(3, HELD, 0, 0), event(5, RELEASED, 0, 0), strike(0)),
            x -> x.told(0, 2));
    }

    private void value() {
        sentence("Of a part behind a month: what = 0 its cost, 1 its allowance, 2 its book, 3 its reserve, 4 its losses,"
            + " 5 its residual, 6 its rest of life; 0 before its first month.");
        Setting s = made(part(1000, 100, 2, 10, STRAIGHT, 0), event(4, VALUED, 1020, 0), event(6, IMPAIRED, 490, 0));
        values("the month before its first one", s, 1, 0, 0, 0, 0, 0, 0, 0);
        values("the first month of all", s, 0, 0, 0, 0, 0, 0, 0, 0);
        values("its first month", s, 2, 1000, 90, 910, 0, 0, 100, 9);
        values("behind the event's month", s, 6, 1020, 300 + 230 + 65, 425, 0, 100, 100, 5);
        values("the last month of all", s, 35, 1020, 920, 100, 0, 100, 100, 0);
        sentence("IllegalArgumentException: there is no such part, month or what.");
        for (int part : NO_PARTS) {
            badArgument("part " + part, BUSY, x -> x.value(part, 5, COST));
        }
        for (int month : NO_MONTHS) {
            badArgument("month " + month, BUSY, x -> x.value(0, month, COST));
        }
        for (int what : new int[] {-1, 7, Integer.MIN_VALUE, Integer.MAX_VALUE}) {
            badArgument("what " + what, BUSY, x -> x.value(0, 5, what));
            badArgument("before its first month, what " + what, BUSY, x -> x.value(0, 1, what));
        }
        badArgument("before its first month, part", BUSY, x -> x.value(2, 0, COST));
    }

    private void charge() {
        sentence("The charge of a part in a month; 0 before its first one.");
        keeps("the first month of all", 0, BUSY, x -> x.charge(0, 0));
        keeps("the month before its first one", 0, BUSY, x -> x.charge(0, 1));
        keeps("its first month", 100, BUSY, x -> x.charge(0, 2));
        keeps("its last month", 50, BUSY, x -> x.charge(0, 11));
        keeps("the month behind it", 0, BUSY, x -> x.charge(0, 12));
        keeps("the last month of all", 0, BUSY, x -> x.charge(0, 35));
        keeps("another part's", 360, BUSY, x -> x.charge(1, 5));
        sentence("IllegalArgumentException: there is no such part or month.");
        for (int part : NO_PARTS) {
            badArgument("charge of part " + part, BUSY, x -> x.charge(part, 5));
        }
        for (int month : NO_MONTHS) {
            badArgument("charge of month " + month, BUSY, x -> x.charge(0, month));
        }
    }

    private void without() {
        sentence("What the book of a part would be behind a month if there were no events of kinds 3 and 4 of it;"
            + " NONE when one of its other events would be a breach then, up to that month; 0 before its first month.");
        keeps("the first month of all", 0, BUSY, x -> x.without(0, 0));
        keeps("the month before its first one", 0, BUSY, x -> x.without(0, 1));
        keeps("its first month", 900, BUSY, x -> x.without(0, 2));
        keeps("the month of the impairing", 800, BUSY, x -> x.without(0, 3));
        keeps("the last month of life", 0, BUSY, x -> x.without(0, 11));
        keeps("the last month of all", 0, BUSY, x -> x.without(0, 35));
        Setting restored = and(BUSY, event(5, RESTORED, 600, 0), event(6, MORE, 60, 0));
        keeps("nor is restored", 600, restored, x -> x.without(0, 5));
        keeps("other kinds count", 550, restored, x -> x.without(0, 6));
        keeps("another part's kinds do not matter", 900, and(restored, x -> x.event(1, 20, IMPAIRED, 5, 0)),
            x -> x.without(0, 2));
        // rounding leaves the book 3 and the bare one 2 behind month 5
        Setting apart = made(part(10, 0, 0, 8, STRAIGHT, 0), event(1, IMPAIRED, 8, 0), event(5, RESTORED, 4, 0),
            event(6, OUTLOOK, 3, 9));
        keeps("the month before the breach", 2, apart, x -> x.without(0, 5));
        keeps("the month of the breach", NONE, apart, x -> x.without(0, 6));
        keeps("the month behind it", NONE, apart, x -> x.without(0, 7));
        keeps("the last month, behind it", NONE, apart, x -> x.without(0, 35));
        keeps("when its breach is struck", 1, and(apart, strike(2)), x -> x.without(0, 6));
        keeps("gone", 0, and(TWO, event(3, SOLD, 0, MILLION)), x -> x.without(0, 3));
        sentence("IllegalArgumentException: there is no such part or month.");
        for (int part : NO_PARTS) {
            badArgument("without of part " + part, BUSY, x -> x.without(part, 5));
        }
        for (int month : NO_MONTHS) {
            badArgument("without of month " + month, BUSY, x -> x.without(0, month));
        }
    }

    private void post() {
        sentence("The next month is posted. Answers what is posted for all parts together (perhaps below 0).");
        answers("nothing yet", 0, TWO, post(1));
        answers("above 0", 100, TWO, post(3));
        answers("together", 460, and(TWO, x -> x.units(1, 4, 40)), post(5));
        answers("together below 0", 45 - 200, and(TWO, post(4), event(2, HELD, 0, 0), x -> x.units(1, 4, 5)), post(1));
        answers("one above, one below, together nothing", 0, and(TWO, post(4), event(2, HELD, 0, 0),
            part(200, 0, 4, 1, STRAIGHT, 0)), post(1));
        answers("none without parts", 0, EMPTY, post(36));
        sentence("IllegalStateException: all are posted.");
        answers("the last one", 0, and(TWO, post(35)), post(1));
        badState("one more", and(TWO, post(36)), post(1));
        badState("one more after a late event", and(TWO, post(36), event(2, HELD, 0, 0)), post(1));
        badState("one more without parts", and(EMPTY, post(36)), post(1));
        keeps("a late event behind all is not posted", 1000, and(TWO, post(36), event(2, HELD, 0, 0)), x -> x.total(0));
    }

    private void months() {
        sentence("How many months are posted.");
        for (int many = 0; many <= 36; many++) {
            keeps("so many: " + many, many, and(EMPTY, post(many)), x -> x.months());
        }
    }

    private void posted() {
        sentence("What was posted for a part in a month; 0 when it was not.");
        keeps("before its first month", 0, BUSY, x -> x.posted(0, 1));
        keeps("its first month", 100, BUSY, x -> x.posted(0, 2));
        keeps("the last posted one", 50, BUSY, x -> x.posted(0, 3));
        keeps("the next one", 0, BUSY, x -> x.posted(0, 4));
        keeps("the last month of all", 0, BUSY, x -> x.posted(0, 35));
        keeps("the last month of all when it is posted", 70, and(BUSY, part(70, 0, 35, 1, STRAIGHT, 0), post(32)),
            x -> x.posted(2, 35));
        keeps("a part that came late", 0, and(BUSY, part(70, 0, 0, 7, STRAIGHT, 0)), x -> x.posted(2, 0));
        keeps("of it, all in the next", 50, and(BUSY, part(70, 0, 0, 7, STRAIGHT, 0), post(1)), x -> x.posted(2, 4));
        sentence("IllegalArgumentException: there is no such part or month.");
        for (int part : NO_PARTS) {
            badArgument("posted of part " + part, BUSY, x -> x.posted(part, 3));
        }
        for (int month : NO_MONTHS) {
            badArgument("posted of month " + month, BUSY, x -> x.posted(0, month));
        }
    }

    private void total() {
        sentence("What was posted for a part in all.");
        keeps("nothing", 0, TWO, x -> x.total(0));
        keeps("what was posted, not what is known now", 150, and(BUSY, event(4, HELD, 0, 0)), x -> x.total(0));
        keeps("all", 1000, and(TWO, post(36)), x -> x.total(0));
        keeps("all of it taken back", 0, and(TWO, post(35), event(2, HELD, 0, 0), post(1)), x -> x.total(0));
        keeps("another part's", 0, BUSY, x -> x.total(1));
        keeps("another part's when its month came", 360, and(BUSY, post(2)), x -> x.total(1));
        sentence("IllegalArgumentException: there is no such part.");
        for (int part : NO_PARTS) {
            badArgument("total of part " + part, BUSY, x -> x.total(part));
        }
        for (int part : FAR_INTS) {
            badArgument("total of part " + part, EMPTY, x -> x.total(part));
        }
    }

    private void parts() {
        sentence("How many parts there are.");
        Setting s = EMPTY;
        for (int many = 0; many < 6; many++) {
            keeps("so many", many, s, x -> x.parts());
            for (int part = many; part < 7; part++) {
                noPart(s, part);
            }
            s = and(s, part(10, 0, 3, 1, STRAIGHT, 0));
        }
        keeps("six", 6, s, x -> x.parts());
        noPart(s, 6);
        answers("the sixth is there", 10, s, x -> x.value(5, 4, COST));
        badState("no seventh", s, part(10, 0, 3, 1, STRAIGHT, 0));
    }
}
