import java.io.IOException;
import java.nio.file.Files;
import java.nio.file.Path;
import java.util.ArrayList;
import java.util.List;

/**
 * For tests of the edges that the document names, each told under the sentence that names it. A setting
 * makes a fresh object; a call is tried on it, and where it must change nothing, all that can be asked
 * or done next is compared with the same on an object that never had the call. No object gets more than
 * 512 calls, behind which nothing is promised.
 */
abstract class Edges {
    interface Setting {
        AgedAssets make();
    }

    interface Use {
        long on(AgedAssets x);
    }

    static final int MORE = 0;
    static final int OUTLOOK = 1;
    static final int VALUED = 2;
    static final int IMPAIRED = 3;
    static final int RESTORED = 4;
    static final int SOLD = 5;
    static final int HELD = 6;
    static final int RELEASED = 7;

    static final int COST = 0;
    static final int ALLOWANCE = 1;
    static final int BOOK = 2;
    static final int RESERVE = 3;
    static final int LOSSES = 4;
    static final int RESIDUAL = 5;
    static final int REST = 6;

    static final int STRAIGHT = 0;
    static final int DECLINING = 1;
    static final int DIGITS = 2;
    static final int BY_UNITS = 3;

    static final int NONE = -1;
    static final int MILLION = 1000000;
    static final long MOST = 1000000000;
    static final long FAR = 4294967297L;
    static final int[] NO_MONTHS = {-1, 36, Integer.MIN_VALUE, Integer.MAX_VALUE};

    private static final long BAD_ARGUMENT = Long.MIN_VALUE;
    private static final long BAD_STATE = Long.MIN_VALUE + 1;
    private static final long OTHER = Long.MIN_VALUE + 2;

    private final Check check;
    private final String document;
    private String sentence = "";

    Edges(String test) {
        check = new Check(test);
        document = document();
    }

    private static String document() {
        String file = System.getProperty("document");
        if (file == null || !Files.isReadable(Path.of(file))) {
            return null;
        }
        try {
            return plain(Files.readString(Path.of(file)));
        } catch (IOException e) {
            throw new IllegalStateException("the document can't be read", e);
        }
    }

    private static String plain(String text) {
        return text.replace("`", "").replaceAll("\\s+", " ");
    }

    /** What follows tests these words; where the document is at hand, they must stand in it. */
    final void sentence(String words) {
        sentence = words + ": ";
        if (document != null) {
            check.due("the document says: " + words, true, document.contains(plain(words)));
        }
    }

    final void end() {
        check.end();
    }

    static Setting made(Use... calls) {
        return and(() -> new AgedAssets(), calls);
    }

    static Setting and(Setting first, Use... calls) {
        return () -> {
            AgedAssets x = first.make();
            for (Use call : calls) {
                call.on(x);
            }
            return x;
        };
    }

    static Use part(long cost, long residual, int month, int life, int method, int rate) {
        return x -> x.part(cost, residual, month, life, method, rate);
    }

    static Use units(int month, int many) {
        return x -> x.units(0, month, many);
    }

    static Use event(int month, int kind, long v, int n) {
        return x -> x.event(0, month, kind, v, n);
    }

    static Use strike(int event) {
        return x -> x.strike(event) ? 1 : 0;
    }

    static Use post(int months) {
        return x -> {
            long last = 0;
            for (int i = 0; i < months; i++) {
                last = x.post();
            }
            return last;
        };
    }

    /** A call that may change what it likes. */
    final void answers(String what, long want, Setting setting, Use call) {
        check.due(sentence + what, want, answer(setting.make(), call));
    }

    /** A call that answers and changes nothing, asking or refused. */
    final void keeps(String what, long want, Setting setting, Use call) {
        answers(what, want, setting, call);
        unchanged(what, setting, call);
    }

    final void badArgument(String what, Setting setting, Use call) {
        answers(what, BAD_ARGUMENT, setting, call);
        unchanged(what, setting, call);
    }

    final void badState(String what, Setting setting, Use call) {
        answers(what, BAD_STATE, setting, call);
        unchanged(what, setting, call);
    }

    /** The charges of part 0 from a month on. */
    final void charges(String what, Setting setting, int from, long... want) {
        AgedAssets x = setting.make();
        long[] got = new long[want.length];
        for (int i = 0; i < want.length; i++) {
            got[i] = x.charge(0, from + i);
        }
        check.all(sentence + what, want, got);
    }

    /** The seven values of part 0 behind a month. */
    final void values(String what, Setting setting, int month, long... want) {
        AgedAssets x = setting.make();
        long[] got = new long[7];
        for (int i = 0; i < 7; i++) {
            got[i] = x.value(0, month, i);
        }
        check.all(sentence + what, want, got);
    }

    private static long answer(AgedAssets x, Use call) {
        try {
            return call.on(x);
        } catch (RuntimeException e) {
            return e.getClass() == IllegalArgumentException.class ? BAD_ARGUMENT
                : e.getClass() == IllegalStateException.class ? BAD_STATE : OTHER;
        }
    }

    private void unchanged(String what, Setting setting, Use call) {
        Setting called = () -> {
            AgedAssets x = setting.make();
            answer(x, call);
            return x;
        };
        String nothing = sentence + what + " changes nothing";
        check.all(nothing + " (reckoned)", reckoned(setting), reckoned(called));
        check.all(nothing + " (told)", told(setting.make()), told(called.make()));
        check.all(nothing + " (parts)", partsNext(setting.make()), partsNext(called.make()));
        check.all(nothing + " (units)", unitsNext(setting.make()), unitsNext(called.make()));
        check.all(nothing + " (events)", eventsNext(setting.make()), eventsNext(called.make()));
        check.all(nothing + " (strikes)", strikesNext(setting.make()), strikesNext(called.make()));
        check.all(nothing + " (posts)", postsNext(setting.make()), postsNext(called.make()));
    }

    private static long[] row(List<Long> answers) {
        long[] row = new long[answers.size()];
        for (int i = 0; i < row.length; i++) {
            row[i] = answers.get(i);
        }
        return row;
    }

    private static long[] reckoned(Setting setting) {
        List<Long> answers = new ArrayList<>();
        int parts = setting.make().parts();
        for (int part = 0; part < parts; part++) {
            AgedAssets x = setting.make();
            for (int month = 0; month < 36; month++) {
                for (int what = 0; what < 7; what++) {
                    answers.add(x.value(part, month, what));
                }
                answers.add(x.charge(part, month));
                answers.add(x.without(part, month));
                answers.add(x.posted(part, month));
            }
        }
        return row(answers);
    }

    private static long[] told(AgedAssets x) {
        List<Long> answers = new ArrayList<>();
        answers.add((long) x.parts());
        answers.add((long) x.months());
        for (int event = 0; event < 41; event++) {
            for (int what = 0; what < 4; what++) {
                answers.add((long) x.told(event, what));
            }
        }
        for (int part = 0; part < x.parts(); part++) {
            answers.add(x.total(part));
        }
        return row(answers);
    }

    private static long[] partsNext(AgedAssets x) {
        List<Long> answers = new ArrayList<>();
        for (int i = 0; i < 7; i++) {
            answers.add(answer(x, part(77, 7, 0, 7, STRAIGHT, 0)));
        }
        return row(answers);
    }

    private static long[] unitsNext(AgedAssets x) {
        List<Long> answers = new ArrayList<>();
        for (int i = 0; i < x.parts() * 36; i++) {
            int part = i / 36;
            int month = i % 36;
            answers.add(answer(x, y -> y.units(part, month, 1)));
        }
        return row(answers);
    }

    private static long[] eventsNext(AgedAssets x) {
        List<Long> answers = new ArrayList<>();
        for (int i = 0; i < x.parts() * 36; i++) {
            int part = i / 36;
            int month = i % 36;
            answers.add(answer(x, y -> y.event(part, month, SOLD, 0, 1)));
        }
        return row(answers);
    }

    private static long[] strikesNext(AgedAssets x) {
        List<Long> answers = new ArrayList<>();
        for (int event = 40; event >= 0; event--) {
            answers.add(answer(x, strike(event)));
        }
        for (int part = 0; part < x.parts(); part++) {
            answers.add(x.value(part, 35, BOOK));
            answers.add(x.value(part, 35, REST));
        }
        return row(answers);
    }

    private static long[] postsNext(AgedAssets x) {
        List<Long> answers = new ArrayList<>();
        for (int i = 0; i < 37; i++) {
            answers.add(answer(x, post(1)));
        }
        for (int i = 0; i < x.parts() * 36; i++) {
            answers.add(x.posted(i / 36, i % 36));
        }
        return row(answers);
    }
}
