/** The reckoning that "Terms" tells: the four methods, the stretches, the events and the breaches. */
public final class TermsTest {
    private static final int MORE = 0;
    private static final int OUTLOOK = 1;
    private static final int VALUED = 2;
    private static final int IMPAIRED = 3;
    private static final int RESTORED = 4;
    private static final int SOLD = 5;
    private static final int HELD = 6;
    private static final int RELEASED = 7;

    private static final int COST = 0;
    private static final int ALLOWANCE = 1;
    private static final int BOOK = 2;
    private static final int RESERVE = 3;
    private static final int LOSSES = 4;
    private static final int RESIDUAL = 5;
    private static final int REST = 6;

    private static final Check check = new Check("TermsTest");

    public static void main(String[] args) {
        straight();
        declining();
        digits();
        byUnits();
        more();
        outlook();
        valued();
        impaired();
        restored();
        restoredNeedsSoundBareCourse();
        sold();
        heldAndReleased();
        largest();
        check.end();
    }

    /** Part 0 of a new object, first month 0. */
    private static AgedAssets with(long cost, long residual, int life, int method, int rate) {
        AgedAssets x = new AgedAssets();
        x.part(cost, residual, 0, life, method, rate);
        return x;
    }

    private static void charges(String what, AgedAssets x, int from, long... want) {
        long[] got = new long[want.length];
        for (int i = 0; i < want.length; i++) {
            got[i] = x.charge(0, from + i);
        }
        check.all(what, want, got);
    }

    private static void values(String what, AgedAssets x, int month, long... want) {
        long[] got = new long[7];
        for (int i = 0; i < 7; i++) {
            got[i] = x.value(0, month, i);
        }
        check.all(what, want, got);
    }

    private static void breach(String what, AgedAssets x, int month, int kind, long v, int n) {
        check.badState(what, () -> x.event(0, month, kind, v, n));
    }

    private static void straight() {
        charges("nothing is lost", with(1000, 100, 7, 0, 0), 0, 129, 128, 129, 128, 129, 128, 129, 0, 0);
        charges("a half is rounded up", with(1, 0, 2, 0, 0), 0, 1, 0, 0);
        charges("halves of three", with(3, 0, 2, 0, 0), 0, 2, 1, 0);
        charges("nothing to write off", with(10, 10, 3, 0, 0), 0, 0, 0, 0, 0);
        charges("a life of one month", with(999, 9, 1, 0, 0), 0, 990, 0);
        AgedAssets x = with(1000, 100, 7, 0, 0);
        values("behind the first month", x, 0, 1000, 129, 871, 0, 0, 100, 6);
        values("behind the last month of life", x, 6, 1000, 900, 100, 0, 0, 100, 0);
        values("behind the last month", x, 35, 1000, 900, 100, 0, 0, 100, 0);
    }

    private static void declining() {
        charges("the rate, then evenly, then the rest", with(100000, 1000, 10, 1, 200000), 0,
            20000, 16000, 12800, 10240, 8192, 6554, 6304, 6303, 6304, 6303, 0);
        // 667 / 2 is a half
        charges("evenly is more than the rate", with(1000, 0, 3, 1, 1), 0, 333, 334, 333, 0);
        charges("no more than the book less the residual", with(777, 7, 6, 1, 1000000), 0, 770, 0, 0);
        charges("just that in the last month of life", with(1000, 900, 1, 1, 1), 0, 100, 0);
        // 5 * 500000 / 10^6 is a half
        charges("a half of the rate is rounded up", with(5, 0, 36, 1, 500000), 0, 3, 1, 1, 0);
        AgedAssets x = with(1000, 500, 4, 1, 500000);
        x.event(0, 1, IMPAIRED, 200, 0);
        charges("the book is below the residual", x, 0, 500, 0, 0, 0, 0);
        AgedAssets y = with(1000, 500, 4, 1, 100000);
        y.event(0, 1, IMPAIRED, 400, 0);
        charges("no charge below the residual", y, 0, 125, 0, 0, 0);
        check.due("life falls below the residual too", 1, y.value(0, 2, REST));
        y.event(0, 3, MORE, 300, 0);
        charges("the last month of life charges all there is", y, 2, 0, 200, 0);
    }

    private static void digits() {
        charges("five, four, three, two, one", with(10000, 0, 5, 2, 0), 0, 3333, 2667, 2000, 1333, 667, 0);
        charges("a residual stays", with(1300, 100, 3, 2, 0), 0, 600, 400, 200, 0);
        // 3 * 1 / 2: with 1 + 2 = 3 parts, 2/3 of 3 is 2
        charges("two months", with(3, 0, 2, 2, 0), 0, 2, 1, 0);
        charges("a half is rounded up", with(1, 0, 3, 2, 0), 0, 1, 0, 0);
        AgedAssets x = with(6000, 0, 3, 2, 0);
        x.event(0, 1, MORE, 300, 0);
        charges("a new stretch counts anew", x, 0, 3000, 2200, 1100, 0);
    }

    private static void byUnits() {
        AgedAssets x = with(9999, 99, 12, 3, 1000);
        x.units(0, 0, 100);
        x.units(0, 1, 333);
        x.units(0, 2, 900);
        charges("up to the rate", x, 0, 990, 3297, 5613, 0);
        AgedAssets y = with(7, 0, 2, 3, 2);
        y.units(0, 0, 1);
        charges("a half is rounded up; what is left at life's end stays", y, 0, 4, 0, 0);
        y.units(0, 2, 1);
        charges("units behind life's end charge nothing", y, 0, 4, 0, 0);
        AgedAssets z = with(1000, 0, 10, 3, 100);
        z.units(0, 0, 40);
        z.event(0, 2, MORE, 600, 0);
        z.units(0, 2, 30);
        z.units(0, 3, 30);
        z.units(0, 4, 30);
        charges("a stretch has what is left of the rate", z, 0, 400, 0, 600, 600, 0);
        z.event(0, 5, MORE, 50, 0);
        charges("nothing is left: all of the base at once", z, 4, 0, 50, 0);
        AgedAssets h = with(1000, 0, 10, 3, 100);
        h.event(0, 1, HELD, 0, 0);
        h.units(0, 1, 50);
        h.event(0, 2, RELEASED, 0, 0);
        h.event(0, 3, VALUED, 800, 0);
        h.units(0, 3, 25);
        charges("units of a held month do not count", h, 0, 0, 0, 0, 200);
        AgedAssets f = new AgedAssets();
        f.part(1000, 0, 5, 10, 3, 100);
        f.units(0, 4, 60);
        f.event(0, 5, VALUED, 500, 0);
        f.units(0, 5, 50);
        check.due("units before the first month do not count", 250, f.charge(0, 5));
        AgedAssets o = with(1000, 0, 2, 3, 100);
        o.units(0, 2, 70);
        o.event(0, 4, OUTLOOK, 0, 3);
        o.units(0, 4, 50);
        check.due("units without life do not count", 500, o.charge(0, 4));
        AgedAssets u = with(1000, 0, 10, 3, 10);
        u.units(0, 0, 1000000);
        u.event(0, 1, MORE, 77, 0);
        charges("more units than the rate leave nothing, not less", u, 0, 1000, 77, 0);
        AgedAssets w = with(1000, 0, 10, 0, 0);
        w.units(0, 0, 1000000);
        charges("units charge nothing by another method", w, 0, 100, 100);
    }

    private static void more() {
        AgedAssets x = with(1200, 0, 12, 0, 0);
        x.event(0, 2, MORE, 500, 0);
        charges("the base grows", x, 0, 100, 100, 150, 150);
        values("the cost grows", x, 2, 1700, 350, 1350, 0, 0, 0, 9);
        AgedAssets y = with(1200, 0, 2, 0, 0);
        breach("no rest of life", y, 2, MORE, 500, 0);
        check.due("the last month of life", 0, y.event(0, 1, MORE, 500, 0));
        charges("all in it", y, 0, 600, 1100, 0);
        AgedAssets z = with(1000, 500, 10, 0, 0);
        z.event(0, 1, IMPAIRED, 100, 0);
        breach("the residual is above the book behind it", z, 2, MORE, 399, 0);
        check.due("the residual is the book behind it", 1, z.event(0, 2, MORE, 400, 0));
        values("behind it", z, 2, 1400, 900, 500, 0, 850, 500, 7);
    }

    private static void outlook() {
        AgedAssets x = with(1000, 100, 10, 0, 0);
        breach("the residual is above the book", x, 1, OUTLOOK, 911, 5);
        x.event(0, 1, OUTLOOK, 910, 5);
        charges("the residual is the book", x, 0, 90, 0, 0);
        values("it tells residual and rest of life", x, 1, 1000, 90, 910, 0, 0, 910, 4);
        AgedAssets y = with(1000, 100, 2, 0, 0);
        y.event(0, 4, OUTLOOK, 40, 2);
        charges("a new life", y, 0, 450, 450, 0, 0, 30, 30, 0);
        AgedAssets z = with(1000, 100, 36, 0, 0);
        z.event(0, 0, OUTLOOK, 0, 1);
        charges("in the first month", z, 0, 1000, 0);
    }

    private static void valued() {
        AgedAssets x = with(1000, 0, 10, 0, 0);
        x.event(0, 2, VALUED, 1000, 0);
        values("up", x, 2, 1000, 125, 875, 200, 0, 0, 7);
        x.event(0, 3, VALUED, 725, 0);
        values("down, less than the reserve", x, 3, 725, 104, 621, 50, 0, 0, 6);
        x.event(0, 4, VALUED, 521, 0);
        values("down, more than the reserve", x, 4, 521, 87, 434, 0, 50, 0, 5);
        x.event(0, 5, VALUED, 434, 0);
        values("neither", x, 5, 434, 87, 347, 0, 50, 0, 4);
        x.event(0, 12, VALUED, 50, 0);
        values("without a rest of life", x, 12, 50, 0, 50, 50, 50, 0, 0);
        AgedAssets y = with(1000, 300, 10, 0, 0);
        y.event(0, 0, VALUED, 299, 0);
        charges("below the residual", y, 0, 0, 0, 0);
        values("no reserve, all is lost", y, 0, 299, 0, 299, 0, 701, 300, 9);
        AgedAssets z = with(1000, 300, 10, 0, 0);
        z.event(0, 3, VALUED, 0, 0);
        values("at nothing", z, 3, 0, 0, 0, 0, 790, 300, 6);
    }

    private static void impaired() {
        AgedAssets x = with(1000, 0, 10, 0, 0);
        breach("not less than the book", x, 1, IMPAIRED, 900, 0);
        check.due("less by a cent", 0, x.event(0, 1, IMPAIRED, 899, 0));
        x.event(0, 3, VALUED, 1000, 0);
        // behind month 2: 899 less rounded 899 * 2 / 9
        check.due("the reserve", 301, x.value(0, 3, RESERVE));
        x.event(0, 4, IMPAIRED, 500, 0);
        values("from the reserve first", x, 4, 1000, 583, 417, 0, 1 + 56, 0, 5);
        breach("more than the book", x, 5, IMPAIRED, 418, 0);
        AgedAssets y = with(1000, 0, 10, 0, 0);
        y.event(0, 2, VALUED, 1000, 0);
        y.event(0, 3, IMPAIRED, 800, 0);
        values("the reserve holds", y, 3, 1000, 314, 686, 125, 0, 0, 6);
        AgedAssets z = with(1000, 400, 4, 0, 0);
        z.event(0, 1, IMPAIRED, 300, 0);
        charges("below the residual", z, 0, 150, 0, 0, 0, 0);
        check.due("without a rest of life", 1, z.event(0, 6, IMPAIRED, 0, 0));
        values("to nothing", z, 6, 1000, 1000, 0, 0, 850, 400, 0);
    }

    private static void restored() {
        AgedAssets x = with(120000, 0, 12, 0, 0);
        x.event(0, 3, IMPAIRED, 50000, 0);
        breach("more than the bare book", x, 5, RESTORED, 70001, 0);
        breach("no more than the book", x, 5, RESTORED, 38889, 0);
        check.due("more by a cent", 1, x.event(0, 5, RESTORED, 38890, 0));
        check.due("the losses fall", 39999, x.value(0, 5, LOSSES));
        breach("more than the bare book a month on", x, 6, RESTORED, 60001, 0);
        check.due("up to the bare book", 2, x.event(0, 6, RESTORED, 60000, 0));
        values("behind it", x, 6, 120000, 70000, 50000, 0, 39999 - (60000 - 33334), 0, 5);
        AgedAssets y = with(1000, 500, 10, 0, 0);
        y.event(0, 1, IMPAIRED, 100, 0);
        breach("the residual is above the book behind it", y, 2, RESTORED, 499, 0);
        check.due("the residual is the book behind it", 1, y.event(0, 2, RESTORED, 500, 0));
        AgedAssets z = with(1000, 0, 10, 0, 0);
        breach("in the first month", z, 0, RESTORED, 1000, 0);
        breach("nothing was impaired", z, 1, RESTORED, 901, 0);
        AgedAssets w = with(1000, 0, 10, 0, 0);
        w.event(0, 2, VALUED, 1000, 0);
        w.event(0, 3, IMPAIRED, 600, 0);
        // the reserve of 200 bears part of 275, and losses of 75 fall by 75 alone
        check.due("losses of it", 75, w.value(0, 3, LOSSES));
        w.event(0, 4, RESTORED, 700, 0);
        values("losses down to 0, no reserve comes back", w, 4, 1000, 300 + 117, 583, 0, 0, 0, 5);
        AgedAssets u = with(1000, 0, 10, 3, 100);
        u.event(0, 0, IMPAIRED, 400, 0);
        check.due("by all of the allowance", 1, u.event(0, 1, RESTORED, 1000, 0));
        values("it is as new", u, 1, 1000, 0, 1000, 0, 0, 0, 8);
        AgedAssets s = with(1000, 0, 10, 0, 0);
        s.event(0, 1, IMPAIRED, 100, 0);
        s.event(0, 3, SOLD, 0, 500000);
        breach("the bare part is sold too", s, 4, RESTORED, 301, 0);
        check.due("up to what is left", 2, s.event(0, 4, RESTORED, 300, 0));
    }

    /**
     * Rounding leaves the part a cent above its bare course behind month 5 (3 and 2), so an OUTLOOK
     * with a residual of 3 is no breach, but would be one without IMPAIRED and RESTORED.
     */
    private static AgedAssets roundedApart(long newResidual) {
        AgedAssets x = with(10, 0, 8, 0, 0);
        x.event(0, 1, IMPAIRED, 8, 0);
        x.event(0, 5, RESTORED, 4, 0);
        check.due("the book", 3, x.value(0, 5, BOOK));
        check.due("the bare book", 2, x.without(0, 5));
        x.event(0, 6, OUTLOOK, newResidual, 9);
        x.event(0, 7, VALUED, 100, 0);
        x.event(0, 8, IMPAIRED, 50, 0);
        return x;
    }

    private static void restoredNeedsSoundBareCourse() {
        AgedAssets x = roundedApart(3);
        check.due("a bare book before", 2, x.without(0, 5));
        check.due("none from then on", AgedAssets.NONE, x.without(0, 6));
        check.due("nor later", AgedAssets.NONE, x.without(0, 35));
        breach("nothing is restored then", x, 9, RESTORED, 60, 0);
        AgedAssets y = roundedApart(2);
        check.due("a sound one", 2, y.without(0, 6));
        // 100 less rounded 98 * 2 / 8
        check.due("and later", 75, y.without(0, 8));
        check.due("so it is restored", 5, y.event(0, 9, RESTORED, 60, 0));
    }

    private static void sold() {
        AgedAssets x = with(1001, 101, 10, 0, 0);
        x.event(0, 2, VALUED, 1001, 0);
        // behind month 2: allowance rounded 900 / 8, reserve 1001 - 821
        values("before it", x, 2, 1001, 113, 888, 180, 0, 101, 7);
        x.event(0, 3, SOLD, 0, 500000);
        // each half is rounded: 501, 57, 90 and 51 are gone; then 394 / 7 is charged
        values("a half of it", x, 3, 500, 56 + 56, 388, 90, 0, 50, 6);
        x.event(0, 4, SOLD, 0, 1);
        values("nearly nothing of it", x, 4, 500, 112 + 56, 332, 90, 0, 50, 5);
        x.event(0, 6, SOLD, 0, 1000000);
        values("all of it", x, 6, 0, 0, 0, 0, 0, 0, 4);
        values("and it stays gone", x, 35, 0, 0, 0, 0, 0, 0, 4);
        charges("no charge when it is gone", x, 6, 0, 0);
        breach("no value when it is gone", x, 7, VALUED, 5, 0);
        breach("no sale when it is gone", x, 7, SOLD, 0, 1);
        breach("not held when it is gone", x, 7, HELD, 0, 0);
        check.due("nor before, if a later one would be a breach", true, x.strike(3));
        x.event(0, 7, VALUED, 500, 0);
        breach("gone before", x, 5, SOLD, 0, 1000000);
        AgedAssets y = with(1000, 0, 10, 0, 0);
        y.event(0, 2, SOLD, 0, 999999);
        check.due("all but a millionth is not gone", 1, y.event(0, 3, VALUED, 70, 0));
        charges("it goes on", y, 3, 10, 10);
        AgedAssets z = with(1000, 0, 10, 0, 0);
        z.event(0, 1, VALUED, 500, 0);
        z.event(0, 2, SOLD, 0, 1000000);
        check.due("losses stay", 400, z.value(0, 2, LOSSES));
        check.due("the rest of life stays", 8, z.value(0, 2, REST));
    }

    private static void heldAndReleased() {
        AgedAssets x = with(1000, 0, 10, 2, 0);
        breach("released when not held", x, 2, RELEASED, 0, 0);
        x.event(0, 2, HELD, 0, 0);
        // 10, 9 and then 8 of 55 parts: held or not, the stretch goes on
        charges("no charge when held", x, 0, 182, 163, 0, 0);
        check.due("life does not fall when held", 8, x.value(0, 9, REST));
        breach("held when held", x, 4, HELD, 0, 0);
        breach("more when held", x, 4, MORE, 1, 0);
        breach("outlook when held", x, 4, OUTLOOK, 0, 5);
        breach("valued when held", x, 4, VALUED, 5, 0);
        breach("impaired when held", x, 4, IMPAIRED, 5, 0);
        breach("restored when held", x, 4, RESTORED, 656, 0);
        x.event(0, 4, RELEASED, 0, 0);
        charges("the stretch goes on", x, 2, 0, 0, 146, 127);
        breach("released twice", x, 6, RELEASED, 0, 0);
        breach("a late one makes a later one a breach", x, 1, HELD, 0, 0);
        check.due("sold when held", 2, x.event(0, 3, SOLD, 0, 500000));
        values("half of it", x, 3, 500, 345 - 173, 328, 0, 0, 0, 8);
        charges("and it stays held; a new stretch behind it", x, 3, 0, 73, 64);
        check.due("held again", 3, x.event(0, 6, HELD, 0, 0));
        check.due("all sold when held", 4, x.event(0, 7, SOLD, 0, 1000000));
        breach("gone, so not released", x, 8, RELEASED, 0, 0);
        AgedAssets w = with(1000, 100, 7, 0, 0);
        w.event(0, 1, HELD, 0, 0);
        w.event(0, 2, RELEASED, 0, 0);
        // a stretch of 771 in 6 months would begin with 129
        charges("neither of them begins a stretch", w, 0, 129, 0, 128, 129);
        AgedAssets y = with(1000, 0, 2, 0, 0);
        check.due("held without a rest of life", 0, y.event(0, 9, HELD, 0, 0));
        check.due("released without one", 1, y.event(0, 10, RELEASED, 0, 0));
    }

    private static void largest() {
        AgedAssets x = with(1000000000, 0, 36, 1, 1000000);
        for (int month = 0; month < 8; month++) {
            x.event(0, month, MORE, 1000000000, 0);
        }
        check.due("the dearest part", 9000000000L, x.value(0, 35, COST));
        check.due("all of it is written off", 9000000000L, x.value(0, 35, ALLOWANCE));
        AgedAssets y = with(1000000000, 0, 36, 3, 1000000);
        for (int month = 0; month < 8; month++) {
            y.event(0, month, MORE, 1000000000, 0);
        }
        y.units(0, 8, 999999);
        check.due("but a millionth", 8999991000L, y.charge(0, 8));
        check.due("a residual", 0, y.value(0, 35, RESIDUAL));
        AgedAssets z = with(1000000000, 1, 36, 2, 0);
        long together = 0;
        for (int month = 0; month < 36; month++) {
            together += z.charge(0, month);
        }
        check.due("not a cent is lost", 999999999, together);
    }
}
