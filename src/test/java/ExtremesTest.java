/**
 * Arguments at the ends of their types and just in and out of what is allowed, all combined, on the
 * program and the model side by side: no wrap-around lets one in, and no other exception comes out.
 */
public final class ExtremesTest {
    private static final int LEAST = Integer.MIN_VALUE;
    private static final int GREATEST = Integer.MAX_VALUE;
    private static final int[] PARTS = {LEAST, -1, 0, 1, 2, 6, GREATEST};
    private static final int[] MONTHS = {LEAST, -1, 0, 1, 2, 35, 36, GREATEST};
    private static final int[] LIVES = {LEAST, -1, 0, 1, 36, 37, GREATEST};
    private static final int[] KINDS = {LEAST, -1, 0, 1, 2, 3, 4, 5, 6, 7, 8, GREATEST};
    private static final int[] MILLIONS = {LEAST, -1, 0, 1, 36, 37, 1000000, 1000001, GREATEST};
    private static final long[] AMOUNTS = {Long.MIN_VALUE, -4294967295L, -1, 0, 1, 1000000000, 1000000001,
        4294967296L, 4294967297L, Long.MAX_VALUE};

    private static final Check check = new Check("ExtremesTest");

    private AgedAssets x;
    private Model y;

    public static void main(String[] args) {
        ExtremesTest test = new ExtremesTest();
        test.part();
        test.units();
        test.event();
        test.readings();
        test.strikes();
        check.end();
    }

    /** Part 0 from month 1 on with an event in month 35, and part 1 by units from month 0 on. */
    private void anew() {
        x = new AgedAssets();
        y = new Model();
        x.part(1000, 10, 1, 36, 0, 0);
        y.part(1000, 10, 1, 36, 0, 0);
        x.part(1000000000, 0, 0, 36, 3, 10);
        y.part(1000000000, 0, 0, 36, 3, 10);
        x.event(0, 35, 5, 0, 7);
        y.event(0, 35, 5, 0, 7);
    }

    private void same(String call, long want, Check.Call answer) {
        long got;
        try {
            got = answer.answer();
        } catch (RuntimeException e) {
            got = e.getClass() == IllegalArgumentException.class ? Model.BAD_ARGUMENT
                : e.getClass() == IllegalStateException.class ? Model.BAD_STATE : Model.BAD_STATE + 1;
        }
        check.due(call, want, got);
    }

    private void part() {
        for (long cost : AMOUNTS) {
            for (long residual : AMOUNTS) {
                for (int month : MONTHS) {
                    for (int life : LIVES) {
                        partOf(cost, residual, month, life);
                    }
                }
            }
        }
    }

    private void partOf(long cost, long residual, int month, int life) {
        for (int method : new int[] {LEAST, -1, 0, 1, 2, 3, 4, GREATEST}) {
            for (int rate : new int[] {LEAST, -1, 0, 1, 1000000, 1000001, GREATEST}) {
                AgedAssets a = new AgedAssets();
                same("part(" + cost + ", " + residual + ", " + month + ", " + life + ", " + method + ", " + rate + ")",
                    new Model().part(cost, residual, month, life, method, rate),
                    () -> a.part(cost, residual, month, life, method, rate));
            }
        }
    }

    private void units() {
        for (int part : PARTS) {
            for (int month : MONTHS) {
                for (int many : MILLIONS) {
                    anew();
                    String call = "units(" + part + ", " + month + ", " + many + ")";
                    same(call, y.units(part, month, many), () -> x.units(part, month, many));
                    same(call + " again", y.units(part, month, 0), () -> x.units(part, month, 0));
                }
            }
        }
    }

    private void event() {
        for (int part : PARTS) {
            for (int month : MONTHS) {
                for (int kind : KINDS) {
                    for (long v : AMOUNTS) {
                        eventOf(part, month, kind, v);
                    }
                }
            }
        }
    }

    private void eventOf(int part, int month, int kind, long v) {
        for (int n : MILLIONS) {
            anew();
            String call = "event(" + part + ", " + month + ", " + kind + ", " + v + ", " + n + ")";
            long want = y.event(part, month, kind, v, n);
            same(call, want, () -> x.event(part, month, kind, v, n));
            if (want >= 0) {
                same(call + ", book", y.value(part, month, 2), () -> x.value(part, month, 2));
                same(call + ", charge", y.charge(part, month), () -> x.charge(part, month));
                same(call + ", without", y.without(part, month), () -> x.without(part, month));
            }
        }
    }

    private void readings() {
        for (int part : PARTS) {
            anew();
            same("total(" + part + ")", y.total(part), () -> x.total(part));
            for (int month : MONTHS) {
                anew();
                String at = "(" + part + ", " + month + ")";
                same("charge" + at, y.charge(part, month), () -> x.charge(part, month));
                same("without" + at, y.without(part, month), () -> x.without(part, month));
                same("posted" + at, y.posted(part, month), () -> x.posted(part, month));
                for (int what : KINDS) {
                    same("value" + at + " " + what, y.value(part, month, what), () -> x.value(part, month, what));
                }
            }
        }
    }

    private void strikes() {
        for (int event : MILLIONS) {
            anew();
            for (int what : KINDS) {
                same("told(" + event + ", " + what + ")", y.told(event, what), () -> x.told(event, what));
            }
            same("strike(" + event + ")", y.strike(event), () -> x.strike(event) ? 1 : 0);
            same("strike(" + event + ") again", y.strike(event), () -> x.strike(event) ? 1 : 0);
        }
    }
}
