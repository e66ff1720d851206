/** The promises 1 to 14, one after the other: ordinary inputs, the edges, and wrong inputs. */
public final class PromiseTest {
    private static final int MORE = 0;
    private static final int OUTLOOK = 1;
    private static final int VALUED = 2;
    private static final int IMPAIRED = 3;
    private static final int RESTORED = 4;
    private static final int SOLD = 5;
    private static final int HELD = 6;
    private static final int RELEASED = 7;
    private static final int NONE = -1;
    private static final int[] NO_MONTHS = {-1, 36, Integer.MIN_VALUE, Integer.MAX_VALUE};

    private static final Check check = new Check("PromiseTest");

    public static void main(String[] args) {
        promise1NewObject();
        promise2Part();
        promise2WrongTerms();
        promise3Units();
        promise3Breach();
        promise4Event();
        promise4WrongTerms();
        promise4Limits();
        promise4LaterBreach();
        promise5Strike();
        promise6Told();
        promise7Value();
        promise8Charge();
        promise9Without();
        promise10Post();
        promise11Months();
        promise12Posted();
        promise13Total();
        promise14Parts();
        check.end();
    }

    /** A new object with part 0: 1000 cents, first month 2, ten months of life, 100 cents a month. */
    private static AgedAssets hundredAMonth() {
        AgedAssets x = new AgedAssets();
        x.part(1000, 0, 2, 10, 0, 0);
        return x;
    }

    private static void promise1NewObject() {
        AgedAssets x = new AgedAssets();
        check.due("NONE", NONE, AgedAssets.NONE);
        check.due("no parts", 0, x.parts());
        check.due("no month is posted", 0, x.months());
        check.badArgument("no value", () -> x.value(0, 0, 0));
        check.badArgument("no total", () -> x.total(0));
        check.due("no event", NONE, x.told(0, 0));
        check.due("nothing to strike", false, x.strike(0));
        check.due("nothing to post", 0, x.post());
        AgedAssets y = new AgedAssets();
        check.due("objects are apart", 0, y.months());
    }

    private static void promise2Part() {
        AgedAssets x = new AgedAssets();
        check.due("least terms", 0, x.part(1, 0, 0, 1, 0, 0));
        check.due("greatest terms", 1, x.part(1000000000, 1000000000, 35, 36, 2, 0));
        check.due("least rate", 2, x.part(5, 5, 0, 1, 1, 1));
        check.due("greatest rate", 3, x.part(5, 5, 0, 1, 1, 1000000));
        check.due("least units", 4, x.part(5, 5, 0, 1, 3, 1));
        check.badArgument("refused before", () -> x.part(5, 6, 0, 1, 3, 1));
        check.due("greatest units", 5, x.part(5, 0, 0, 1, 3, 1000000));
        check.badState("six are all", () -> x.part(1, 0, 0, 1, 0, 0));
        check.badArgument("the argument first", () -> x.part(0, 0, 0, 1, 0, 0));
        check.due("the cost", 1000000000, x.value(1, 35, 0));
        check.due("the residual", 1000000000, x.value(1, 35, 5));
        check.due("the life", 35, x.value(1, 35, 6));
        check.due("another cost", 1, x.value(0, 0, 0));
        AgedAssets y = hundredAMonth();
        for (int month = 0; month < 8; month++) {
            y.post();
        }
        check.due("its first month is posted already", 1, y.part(700, 0, 3, 7, 0, 0));
        check.due("nothing was posted for it", 0, y.total(1));
        check.due("all of it comes with the next month", 700, y.post());
        check.due("of it", 600, y.posted(1, 8));
    }

    private static void promise2WrongTerms() {
        AgedAssets x = new AgedAssets();
        check.badArgument("cost 0", () -> x.part(0, 0, 0, 1, 0, 0));
        check.badArgument("cost below 0", () -> x.part(-1, 0, 0, 1, 0, 0));
        check.badArgument("least cost", () -> x.part(Long.MIN_VALUE, 0, 0, 1, 0, 0));
        check.badArgument("cost above 10^9", () -> x.part(1000000001, 0, 0, 1, 0, 0));
        check.badArgument("cost of an int's overflow", () -> x.part(4294967297L, 0, 0, 1, 0, 0));
        check.badArgument("residual below 0", () -> x.part(9, -1, 0, 1, 0, 0));
        check.badArgument("residual above the cost", () -> x.part(9, 10, 0, 1, 0, 0));
        check.badArgument("residual of an int's overflow", () -> x.part(9, 4294967297L, 0, 1, 0, 0));
        for (int month : NO_MONTHS) {
            check.badArgument("month " + month, () -> x.part(9, 0, month, 1, 0, 0));
        }
        for (int life : new int[] {0, -1, 37, Integer.MAX_VALUE}) {
            check.badArgument("life " + life, () -> x.part(9, 0, 0, life, 0, 0));
        }
        for (int method : new int[] {-1, 4, Integer.MAX_VALUE}) {
            check.badArgument("method " + method, () -> x.part(9, 0, 0, 1, method, 0));
            check.badArgument("method with a rate " + method, () -> x.part(9, 0, 0, 1, method, 1));
        }
        for (int rate : new int[] {1, -1, 1000000}) {
            check.badArgument("rate of method 0: " + rate, () -> x.part(9, 0, 0, 1, 0, rate));
            check.badArgument("rate of method 2: " + rate, () -> x.part(9, 0, 0, 1, 2, rate));
        }
        for (int rate : new int[] {0, -1, 1000001}) {
            check.badArgument("rate of method 1: " + rate, () -> x.part(9, 0, 0, 1, 1, rate));
            check.badArgument("rate of method 3: " + rate, () -> x.part(9, 0, 0, 1, 3, rate));
        }
        check.due("none came", 0, x.parts());
    }

    private static void promise3Units() {
        AgedAssets x = new AgedAssets();
        x.part(1000, 0, 2, 10, 3, 100);
        x.part(1000, 0, 2, 10, 0, 0);
        check.due("none at first", 0, x.units(0, 2, 10));
        check.due("in place of what was told", 10, x.units(0, 2, 20));
        check.due("charged by what is told now", 200, x.charge(0, 2));
        check.due("the month before the first one", 0, x.units(0, 0, 7));
        check.due("which charges nothing", 200, x.value(0, 35, 1));
        check.due("the last month", 0, x.units(0, 35, 1000000));
        check.due("the most", 1000000, x.units(0, 35, 0));
        check.due("none again", 0, x.units(0, 35, 0));
        check.due("another method", 0, x.units(1, 2, 30));
        check.due("is told too", 30, x.units(1, 2, 0));
        check.due("another part's are its own", 20, x.units(0, 2, 20));
        check.badArgument("no part", () -> x.units(2, 2, 0));
        check.badArgument("part below 0", () -> x.units(-1, 2, 0));
        check.badArgument("too many", () -> x.units(0, 2, 1000001));
        check.badArgument("below 0", () -> x.units(0, 2, -1));
        for (int month : NO_MONTHS) {
            check.badArgument("month " + month, () -> x.units(0, month, 5));
        }
        check.due("a refused call changes nothing", 20, x.units(0, 2, 20));
    }

    private static void promise3Breach() {
        AgedAssets x = new AgedAssets();
        x.part(1000, 0, 0, 10, 3, 100);
        x.units(0, 0, 10);
        x.event(0, 3, IMPAIRED, 500, 0);
        check.badState("the book is no more then", () -> x.units(0, 1, 40));
        check.due("it stays as it was", 0, x.units(0, 1, 39));
        check.due("the book", 500, x.value(0, 3, 2));
        check.due("what was lost", 10, x.value(0, 3, 4));
        check.badState("too many in the first month", () -> x.units(0, 0, 11));
        check.badArgument("the argument first", () -> x.units(0, 0, 1000001));
        check.due("as before", 10, x.units(0, 0, 10));
        check.due("units behind the event", 0, x.units(0, 3, 1000000));
        AgedAssets y = new AgedAssets();
        y.part(1000, 0, 0, 10, 3, 100);
        y.event(0, 1, IMPAIRED, 400, 0);
        y.event(0, 3, RESTORED, 900, 0);
        check.badState("the bare book is less than what is restored", () -> y.units(0, 0, 11));
        check.due("it is just that", 0, y.units(0, 0, 10));
        check.due("in part", 900, y.without(0, 3));
    }

    private static void promise4Event() {
        AgedAssets x = hundredAMonth();
        check.due("the first", 0, x.event(0, 4, MORE, 800, 0));
        check.due("later in number, not in time", 1, x.event(0, 2, SOLD, 0, 500000));
        check.due("both are reckoned", (500 - 100 + 800) - 150, x.value(0, 4, 2));
        check.due("in the last month", 2, x.event(0, 35, HELD, 0, 0));
        check.badState("one a month", () -> x.event(0, 4, VALUED, 1, 0));
        check.badState("a breach in the last month", () -> hundredAMonth().event(0, 35, MORE, 1, 0));
        check.badState("also of the same kind", () -> x.event(0, 35, RELEASED, 0, 0));
        check.badArgument("the argument first", () -> x.event(0, 4, VALUED, 1, 1));
        check.badState("a breach", () -> x.event(0, 3, RELEASED, 0, 0));
        check.due("a refused event has no number", 3, x.event(0, 3, IMPAIRED, 0, 0));
        x.part(500, 0, 4, 5, 0, 0);
        check.due("another part has that month", 4, x.event(1, 4, MORE, 1, 0));
        x.post();
        x.post();
        x.post();
        check.due("posted months take late events", 5, x.event(1, 5, VALUED, 9, 0));
        check.due("told of it", 5, x.told(5, 1));
    }

    private static void fits(String what, int kind, long v, int n) {
        AgedAssets x = new AgedAssets();
        x.part(1000000000, 0, 0, 36, 0, 0);
        check.due(what, 0, x.event(0, 3, kind, v, n));
    }

    private static void isWrong(String what, int kind, long v, int n) {
        AgedAssets x = hundredAMonth();
        check.badArgument(what, () -> x.event(0, 3, kind, v, n));
    }

    private static void promise4WrongTerms() {
        AgedAssets x = hundredAMonth();
        check.badArgument("no part", () -> x.event(1, 3, MORE, 1, 0));
        check.badArgument("part below 0", () -> x.event(-1, 3, MORE, 1, 0));
        check.badArgument("before its first month", () -> x.event(0, 1, MORE, 1, 0));
        for (int month : NO_MONTHS) {
            check.badArgument("month " + month, () -> x.event(0, month, MORE, 1, 0));
        }
        check.due("its first month", 0, x.event(0, 2, MORE, 1, 0));
        for (int kind : new int[] {-1, 8, Integer.MAX_VALUE}) {
            isWrong("kind " + kind, kind, 0, 0);
            isWrong("kind with v " + kind, kind, 1, 0);
        }
        fits("least more", MORE, 1, 0);
        fits("greatest more", MORE, 1000000000, 0);
        fits("least outlook", OUTLOOK, 0, 1);
        fits("longest outlook", OUTLOOK, 0, 36);
        fits("least value", VALUED, 0, 0);
        fits("greatest value", VALUED, 1000000000, 0);
        fits("least impaired", IMPAIRED, 0, 0);
        fits("least sold", SOLD, 0, 1);
        fits("greatest sold", SOLD, 0, 1000000);
        isWrong("nothing more", MORE, 0, 0);
        for (int n : new int[] {0, -1, 37}) {
            isWrong("outlook of " + n + " months", OUTLOOK, 1, n);
        }
        for (int n : new int[] {0, -1, 1000001}) {
            isWrong("sold " + n, SOLD, 0, n);
        }
        for (int kind : new int[] {OUTLOOK, VALUED, IMPAIRED, RESTORED, MORE}) {
            int n = kind == OUTLOOK ? 1 : 0;
            isWrong("v below 0 of kind " + kind, kind, -1, n);
            isWrong("v above 10^9 of kind " + kind, kind, 1000000001, n);
            isWrong("v of an int's overflow of kind " + kind, kind, 4294967297L, n);
        }
        for (int kind : new int[] {SOLD, HELD, RELEASED}) {
            int n = kind == SOLD ? 1 : 0;
            isWrong("v of kind " + kind, kind, 1, n);
            isWrong("v below 0 of kind " + kind, kind, -1, n);
        }
        for (int kind : new int[] {MORE, VALUED, IMPAIRED, RESTORED, HELD, RELEASED}) {
            long v = kind >= HELD ? 0 : 1;
            isWrong("n of kind " + kind, kind, v, 1);
            isWrong("n below 0 of kind " + kind, kind, v, -1);
        }
    }

    /** Events in months 0 .. many - 1, held and released by turns. */
    private static void fill(AgedAssets x, int part, int many) {
        for (int month = 0; month < many; month++) {
            x.event(part, month, month % 2 == 0 ? HELD : RELEASED, 0, 0);
        }
    }

    private static void promise4Limits() {
        AgedAssets x = new AgedAssets();
        for (int part = 0; part < 6; part++) {
            x.part(1000, 0, 0, 20, 0, 0);
        }
        fill(x, 0, 8);
        check.badState("a part has 8", () -> x.event(0, 8, HELD, 0, 0));
        check.due("one is struck", true, x.strike(7));
        check.due("it has room again", 8, x.event(0, 9, RELEASED, 0, 0));
        check.badState("8 again", () -> x.event(0, 10, HELD, 0, 0));
        for (int part = 1; part < 4; part++) {
            fill(x, part, 8);
        }
        fill(x, 4, 6);
        check.due("the last but one", 39, x.event(5, 0, HELD, 0, 0));
        check.badState("there were 40", () -> x.event(5, 1, RELEASED, 0, 0));
        check.due("the last is struck", true, x.strike(39));
        check.badState("a struck one counts", () -> x.event(5, 0, HELD, 0, 0));
        check.due("no one takes its number", NONE, x.told(39, 0));
        check.due("none behind the last", NONE, x.told(40, 0));
        check.due("none to strike", false, x.strike(40));
        check.due("nothing is held", 50, x.charge(5, 0));
    }

    private static void promise4LaterBreach() {
        AgedAssets x = hundredAMonth();
        x.event(0, 7, IMPAIRED, 450, 0);
        check.badState("it is less than the book then", () -> x.event(0, 4, SOLD, 0, 100000));
        check.due("nothing has changed", 500, x.value(0, 6, 2));
        check.due("a smaller sale", 1, x.event(0, 4, SOLD, 0, 90000));
        check.due("the book before", 455, x.value(0, 6, 2));
        AgedAssets y = hundredAMonth();
        y.event(0, 4, IMPAIRED, 400, 0);
        y.event(0, 6, RESTORED, 600, 0);
        check.badState("the bare book is less then", () -> y.event(0, 3, VALUED, 899, 0));
        check.due("it is just that", 2, y.event(0, 3, VALUED, 900, 0));
        AgedAssets z = hundredAMonth();
        z.event(0, 12, OUTLOOK, 0, 3);
        z.event(0, 13, MORE, 60, 0);
        check.badState("no life is left for a later one", () -> z.event(0, 11, SOLD, 0, 1000000));
        check.due("one after them", 2, z.event(0, 14, SOLD, 0, 1000000));
    }

    private static void promise5Strike() {
        AgedAssets x = hundredAMonth();
        x.event(0, 12, OUTLOOK, 0, 3);
        x.event(0, 13, MORE, 60, 0);
        check.due("a later one would have no life", false, x.strike(0));
        check.due("it stays", 1, x.told(0, 2));
        check.due("and works", 30, x.charge(0, 13));
        check.due("the later one", true, x.strike(1));
        check.due("not again", false, x.strike(1));
        check.due("it is gone", NONE, x.told(1, 2));
        check.due("its cost too", 1000, x.value(0, 35, 0));
        check.due("now the other", true, x.strike(0));
        check.due("no life", 0, x.value(0, 12, 6));
        check.due("none such", false, x.strike(2));
        check.due("below 0", false, x.strike(-1));
        check.due("least", false, x.strike(Integer.MIN_VALUE));
        check.due("greatest", false, x.strike(Integer.MAX_VALUE));
        check.due("numbers go on", 2, x.event(0, 12, VALUED, 6, 0));
        check.due("it is there", 12, x.told(2, 1));
        AgedAssets y = hundredAMonth();
        y.event(0, 3, IMPAIRED, 500, 0);
        y.event(0, 5, RESTORED, 650, 0);
        y.event(0, 4, MORE, 100, 0);
        check.due("nothing to restore", false, y.strike(0));
        check.due("the more is needed for nothing", true, y.strike(2));
        check.due("posted", 0, y.post());
    }

    private static void promise6Told() {
        AgedAssets x = hundredAMonth();
        x.part(100, 0, 7, 4, 0, 0);
        x.event(1, 9, OUTLOOK, 5, 17);
        x.event(0, 2, SOLD, 0, 999);
        check.due("its part", 1, x.told(0, 0));
        check.due("its month", 9, x.told(0, 1));
        check.due("its kind", OUTLOOK, x.told(0, 2));
        check.due("its n", 17, x.told(0, 3));
        check.due("v is not told", NONE, x.told(0, 4));
        check.due("what below 0", NONE, x.told(0, -1));
        check.due("another's part", 0, x.told(1, 0));
        check.due("another's month", 2, x.told(1, 1));
        check.due("another's kind", SOLD, x.told(1, 2));
        check.due("another's n", 999, x.told(1, 3));
        check.due("no event", NONE, x.told(2, 0));
        check.due("event below 0", NONE, x.told(-1, 0));
        check.due("far event", NONE, x.told(Integer.MAX_VALUE, 0));
        x.strike(0);
        for (int what = 0; what < 4; what++) {
            check.due("a struck one", NONE, x.told(0, what));
        }
        check.due("the other stays", 999, x.told(1, 3));
    }

    private static void promise7Value() {
        AgedAssets x = new AgedAssets();
        x.part(1000, 100, 2, 10, 0, 0);
        x.event(0, 4, VALUED, 1020, 0);
        x.event(0, 6, IMPAIRED, 490, 0);
        // 820 is 1020 then, 115 a month; 790 less 490 is 200 of reserve and 100 of losses
        long[] behind = {1020, 300 + 230 + 65, 425, 0, 100, 100, 5};
        for (int what = 0; what < 7; what++) {
            check.due("what " + what, behind[what], x.value(0, 6, what));
            check.due("before its first month " + what, 0, x.value(0, 1, what));
            check.due("in month 0 " + what, 0, x.value(0, 0, what));
        }
        check.due("the reserve before", 200, x.value(0, 5, 3));
        check.due("the book behind its first month", 910, x.value(0, 2, 2));
        check.due("in the last month", 100, x.value(0, 35, 2));
        for (int month : NO_MONTHS) {
            check.badArgument("month " + month, () -> x.value(0, month, 0));
        }
        for (int what : new int[] {-1, 7, Integer.MAX_VALUE}) {
            check.badArgument("what " + what, () -> x.value(0, 5, what));
            check.badArgument("what before its first month " + what, () -> x.value(0, 0, what));
        }
        check.badArgument("no part", () -> x.value(1, 5, 0));
        check.badArgument("part below 0", () -> x.value(-1, 5, 0));
    }

    private static void promise8Charge() {
        AgedAssets x = hundredAMonth();
        check.due("before its first month", 0, x.charge(0, 1));
        check.due("in month 0", 0, x.charge(0, 0));
        check.due("in its first month", 100, x.charge(0, 2));
        check.due("in its last month", 100, x.charge(0, 11));
        check.due("behind it", 0, x.charge(0, 12));
        check.due("in the last month of all", 0, x.charge(0, 35));
        x.event(0, 5, IMPAIRED, 70, 0);
        check.due("an event is no charge", 10, x.charge(0, 5));
        for (int month : NO_MONTHS) {
            check.badArgument("month " + month, () -> x.charge(0, month));
        }
        check.badArgument("no part", () -> x.charge(1, 5));
        check.badArgument("part below 0", () -> x.charge(-1, 5));
    }

    private static void promise9Without() {
        AgedAssets x = hundredAMonth();
        x.event(0, 4, IMPAIRED, 80, 0);
        x.event(0, 6, MORE, 600, 0);
        x.event(0, 8, RESTORED, 700, 0);
        check.due("before its first month", 0, x.without(0, 1));
        check.due("in its first month", 900, x.without(0, 2));
        check.due("as if not impaired", 700, x.without(0, 4));
        check.due("with what is more", 1000, x.without(0, 6));
        check.due("as if not restored", 600, x.without(0, 8));
        check.due("in the last month", 0, x.without(0, 35));
        check.due("the book itself", 80 - 10, x.value(0, 4, 2));
        AgedAssets y = new AgedAssets();
        y.part(10, 0, 0, 8, 0, 0);
        y.event(0, 1, IMPAIRED, 8, 0);
        y.event(0, 5, RESTORED, 4, 0);
        y.event(0, 6, OUTLOOK, 3, 9);
        check.due("before what would be a breach", 2, y.without(0, 5));
        check.due("where it would be", NONE, y.without(0, 6));
        check.due("and behind it", NONE, y.without(0, 7));
        check.due("before its first month all the same", 0, hundredAMonth().without(0, 0));
        for (int month : NO_MONTHS) {
            check.badArgument("month " + month, () -> x.without(0, month));
        }
        check.badArgument("no part", () -> x.without(1, 5));
        check.badArgument("part below 0", () -> x.without(-1, 5));
    }

    private static void promise10Post() {
        AgedAssets x = hundredAMonth();
        x.part(300, 0, 3, 3, 0, 0);
        check.due("before any first month", 0, x.post());
        check.due("before it", 0, x.post());
        check.due("one", 100, x.post());
        check.due("both", 200, x.post());
        x.event(0, 2, IMPAIRED, 0, 0);
        check.due("a late event takes back", 100 - 200, x.post());
        check.due("what is known then", -200, x.posted(0, 4));
        check.due("is struck", true, x.strike(0));
        check.due("and comes again", 400 + 100, x.post());
        for (int month = 6; month < 36; month++) {
            check.due("on in month " + month, month < 12 ? 100 : 0, x.post());
        }
        check.badState("all are posted", () -> x.post());
        check.due("36 of them", 36, x.months());
        check.due("what is posted is what is reckoned", 1000, x.total(0));
        AgedAssets y = hundredAMonth();
        y.event(0, 3, SOLD, 0, 1000000);
        y.post();
        y.post();
        y.post();
        check.due("a sale is not posted", 0, y.post());
        check.due("the charge before it is", 100, y.total(0));
    }

    private static void promise11Months() {
        AgedAssets x = new AgedAssets();
        for (int month = 0; month < 36; month++) {
            check.due("so many", month, x.months());
            x.post();
        }
        check.due("all", 36, x.months());
        check.badState("no more", () -> x.post());
        check.due("all the same", 36, x.months());
    }

    private static void promise12Posted() {
        AgedAssets x = hundredAMonth();
        x.part(50, 0, 2, 1, 0, 0);
        for (int month = 0; month < 4; month++) {
            x.post();
        }
        check.due("before its first month", 0, x.posted(0, 1));
        check.due("its first month", 100, x.posted(0, 2));
        check.due("the next", 100, x.posted(0, 3));
        check.due("not posted yet", 0, x.posted(0, 4));
        check.due("never", 0, x.posted(0, 35));
        check.due("the other part", 50, x.posted(1, 2));
        x.event(0, 2, OUTLOOK, 0, 1);
        check.due("what was posted stays", 100, x.posted(0, 2));
        x.post();
        check.due("what was missing", 800, x.posted(0, 4));
        check.due("and stays so", 100, x.posted(0, 3));
        for (int month : NO_MONTHS) {
            check.badArgument("month " + month, () -> x.posted(0, month));
        }
        check.badArgument("no part", () -> x.posted(2, 2));
        check.badArgument("part below 0", () -> x.posted(-1, 2));
    }

    private static void promise13Total() {
        AgedAssets x = hundredAMonth();
        x.part(50, 0, 2, 2, 0, 0);
        check.due("nothing at first", 0, x.total(0));
        for (int month = 0; month < 4; month++) {
            x.post();
        }
        check.due("two months", 200, x.total(0));
        check.due("the other part", 50, x.total(1));
        x.event(0, 3, HELD, 0, 0);
        check.due("not before it is posted", 200, x.total(0));
        x.post();
        check.due("then it is", 100, x.total(0));
        check.badArgument("no part", () -> x.total(2));
        check.badArgument("part below 0", () -> x.total(-1));
        check.badArgument("far part", () -> x.total(Integer.MAX_VALUE));
    }

    private static void promise14Parts() {
        AgedAssets x = new AgedAssets();
        for (int many = 0; many < 6; many++) {
            check.due("so many", many, x.parts());
            x.part(10, 0, 35, 1, 0, 0);
        }
        check.due("six", 6, x.parts());
        check.badState("no more", () -> x.part(10, 0, 35, 1, 0, 0));
        check.badArgument("nor wrong ones", () -> x.part(10, 11, 35, 1, 0, 0));
        check.due("six all the same", 6, x.parts());
        check.badArgument("no units behind them", () -> x.units(6, 35, 0));
        check.badArgument("no event behind them", () -> x.event(6, 35, MORE, 1, 0));
        check.badArgument("no value behind them", () -> x.value(6, 35, 0));
        check.badArgument("no total behind them", () -> x.total(6));
    }
}
