import java.util.Random;

/** Long runs of calls, drawn by fixed seeds, on the program and on the model side by side. */
public final class ModelTest {
    private static final int RUNS = 1500;
    private static final int CALLS = 512;

    private static final Check check = new Check("ModelTest");

    private final int seed;
    private final Random random;
    private final AgedAssets x = new AgedAssets();
    private final Model y = new Model();
    private final long greatest;
    private int events;
    private int breaches;
    private int late;
    private int noBare;
    private int calls;

    private ModelTest(int seed) {
        this.seed = seed;
        random = new Random(seed);
        greatest = new long[] {12, 200, 5000, 1000000000}[seed % 4];
    }

    public static void main(String[] args) {
        int events = 0;
        int breaches = 0;
        int lateBreaches = 0;
        int noBare = 0;
        for (int seed = 0; seed < RUNS; seed++) {
            ModelTest run = new ModelTest(seed);
            run.calls();
            events += run.events;
            breaches += run.breaches;
            lateBreaches += run.late;
            noBare += run.noBare;
        }
        System.out.println("ModelTest: " + events + " events came, " + breaches + " were refused, "
            + lateBreaches + " strikes or units were refused, " + noBare + " times no bare book");
        check.due("the runs reach what is rare", true, noBare > 0 && lateBreaches > 0 && breaches > 0);
        check.end();
    }

    /** An answer takes up to three calls, and behind CALLS of them nothing is promised. */
    private void calls() {
        int queriesPerChange = 1 + seed % 3;
        while (calls <= CALLS - 3) {
            if (y.parts.isEmpty() || random.nextInt(1 + queriesPerChange) == 0) {
                change();
            } else {
                ask();
            }
        }
    }

    private int below(int n) {
        return random.nextInt(n);
    }

    /** Mostly a part that is there. */
    private int somePart() {
        return below(40) == 0 ? below(9) - 1 : below(Math.max(1, y.parts.size()));
    }

    private int someMonth() {
        return below(60) == 0 ? (below(2) == 0 ? -1 : 36) : below(36);
    }

    private long someAmount() {
        return Math.floorMod(random.nextLong(), greatest + 1);
    }

    private void change() {
        int kind = below(20);
        if (y.parts.isEmpty() || kind == 0) {
            makePart();
        } else if (kind < 3) {
            post();
        } else if (kind < 6) {
            useUnits();
        } else if (kind < 8) {
            strike();
        } else {
            makeEvent();
        }
    }

    private void makePart() {
        long cost = below(30) == 0 ? below(3) - 1 : Math.max(1, someAmount());
        long residual = below(3) == 0 ? 0 : Math.floorMod(random.nextLong(), Math.max(1, cost) + (below(20) == 0 ? 2 : 1));
        int month = below(40) == 0 ? 36 : below(below(2) == 0 ? 36 : 6);
        int life = below(40) == 0 ? 37 : 1 + below(below(2) == 0 ? 36 : 8);
        int method = below(40) == 0 ? 4 : below(4);
        boolean rated = method == 1 || method == 3;
        int rate = rated == (below(40) != 0) ? 1 + below(method == 3 ? 60 : 1000000) : 0;
        same("part(" + cost + ", " + residual + ", " + month + ", " + life + ", " + method + ", " + rate + ")",
            y.part(cost, residual, month, life, method, rate),
            () -> x.part(cost, residual, month, life, method, rate));
    }

    private void useUnits() {
        int part = somePart();
        int month = someMonth();
        int many = below(40) == 0 ? 1000001 : below(30) == 0 ? 1000000 : below(20);
        long want = y.units(part, month, many);
        late += want == Model.BAD_STATE ? 1 : 0;
        same("units(" + part + ", " + month + ", " + many + ")", want, () -> x.units(part, month, many));
    }

    private void strike() {
        int event = below(20) == 0 ? below(50) - 5 : below(Math.max(1, y.events.size()));
        boolean there = y.told(event, 0) >= 0;
        long want = y.strike(event);
        late += there && want == 0 ? 1 : 0;
        same("strike(" + event + ")", want, () -> x.strike(event) ? 1 : 0);
    }

    private void post() {
        same("post()", y.post(), () -> x.post());
    }

    private void makeEvent() {
        int part = somePart();
        if (below(4) == 0 && outlookAboveBareBook(part)) {
            return;
        }
        int month = someMonth();
        int kind = below(60) == 0 ? below(2) * 9 - 1 : below(3) == 0 ? 3 + below(2) : below(8);
        long v = kind > 4 && below(40) != 0 ? 0 : nearAmount(part, month, kind);
        int n = kind == 1 ? below(12) + (below(40) == 0 ? 30 : 1) : kind == 5 ? sold() : below(40) == 0 ? 1 : 0;
        event(part, month, kind, v, n);
    }

    private void event(int part, int month, int kind, long v, int n) {
        long want = y.event(part, month, kind, v, n);
        events += want >= 0 ? 1 : 0;
        breaches += want == Model.BAD_STATE ? 1 : 0;
        same("event(" + part + ", " + month + ", " + kind + ", " + v + ", " + n + ")", want,
            () -> x.event(part, month, kind, v, n));
    }

    /** An OUTLOOK that would be a breach in the bare course alone, where rounding leaves room for one. */
    private boolean outlookAboveBareBook(int part) {
        for (int month = 0; month < 35; month++) {
            long book = y.value(part, month, 2);
            if (book > Math.max(0, y.without(part, month))) {
                event(part, month + 1, 1, book, 1 + below(12));
                return true;
            }
        }
        return false;
    }

    private int sold() {
        return new int[] {500000, 333333, 1, 999999, 1000000, 250000, 1 + below(1000000), 0}[below(8)];
    }

    /** Mostly an amount at the edge of what can be: about the book, the bare book or the residual. */
    private long nearAmount(int part, int month, int kind) {
        if (below(4) == 0 || kind == 0 && below(3) != 0 || y.value(part, month - 1, 0) == Model.BAD_ARGUMENT) {
            return someAmount();
        }
        long about = switch (below(3)) {
            case 0 -> y.value(part, month - 1, 2);
            case 1 -> y.without(part, month - 1);
            default -> y.value(part, month - 1, 5);
        };
        return about + below(3) - (kind == 3 ? 2 : 1);
    }

    private void ask() {
        int part = somePart();
        int month = someMonth();
        int what = below(30) == 0 ? below(12) - 2 : below(7);
        int event = below(20) == 0 ? below(50) - 5 : below(Math.max(1, y.events.size()));
        String at = "(" + part + ", " + month + ")";
        switch (below(10)) {
            case 0, 1, 2 -> same("value(" + part + ", " + month + ", " + what + ")", y.value(part, month, what),
                () -> x.value(part, month, what));
            case 3, 4 -> same("charge" + at, y.charge(part, month), () -> x.charge(part, month));
            case 5, 6 -> {
                long want = y.without(part, month);
                noBare += want == AgedAssets.NONE ? 1 : 0;
                same("without" + at, want, () -> x.without(part, month));
            }
            case 7 -> same("posted" + at, y.posted(part, month), () -> x.posted(part, month));
            case 8 -> same("told(" + event + ", " + what + ")", y.told(event, what), () -> x.told(event, what));
            default -> {
                same("total(" + part + ")", y.total(part), () -> x.total(part));
                same("months()", y.posted, () -> x.months());
                same("parts()", y.parts.size(), () -> x.parts());
            }
        }
    }

    private void same(String call, long want, Check.Call answer) {
        calls++;
        long got;
        try {
            got = answer.answer();
        } catch (IllegalArgumentException e) {
            got = Model.BAD_ARGUMENT;
        } catch (IllegalStateException e) {
            got = Model.BAD_STATE;
        }
        check.due("run " + seed + ": " + call, want, got);
    }
}
