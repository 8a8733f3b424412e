/** Long runs of calls, good and bad ones mixed, with what the model of the document answers to each. */
public final class LongRunsTest {
    private static final int RUNS = 3_000;
    private static final int CALLS = 512;
    // Small numbers bring halves, ties and meetings at rows; great ones bring long products.
    private static final int[] SCALES = {8, 100, 20_000, 1_000_000};

    private interface Asked {
        Object answer();
    }

    private final StrainRows object = new StrainRows();
    private final Model model = new Model();
    private final int scale;
    private final int callsBetweenClears;
    private int lastStrain = -1;
    private int lastX = -1;
    // The same row of numbers each time, so that a failing run can be told again.
    private long state;

    public static void main(String[] args) {
        Due due = new Due();
        for (int run = 0; run < RUNS; run++) {
            new LongRunsTest(run).play(due, run);
        }
        due.end();
    }

    private LongRunsTest(int run) {
        scale = SCALES[run % SCALES.length];
        callsBetweenClears = run % 3 == 0 ? 400 : 60;
        state = run * 7_919L + 17;
    }

    private void play(Due due, int run) {
        for (int i = 0; i < CALLS; i++) {
            String fault = next(callsBetweenClears) == 0 ? clear() : oneCall();
            if (!fault.isEmpty()) {
                due.holds("run " + run + ", call " + i + ": " + fault, false);
                return;
            }
        }
        due.holds("run " + run, true);
    }

    /** Nothing if the two agree, else what was asked and answered. */
    private String compared(String asked, String want, Asked call) {
        String got;
        try {
            got = "" + call.answer();
        } catch (RuntimeException thrown) {
            got = thrown.getClass().getSimpleName();
        }
        return got.equals(want) ? "" : asked + " answered " + got + ", due is " + want;
    }

    private String oneCall() {
        switch (next(20)) {
            case 0: case 1: case 2: case 3: return row();
            case 4: return section();
            case 5: case 6: return slope();
            case 7: case 8: case 9: return offset();
            case 10: return peak();
            case 11: return stretch();
            case 12: return impact();
            case 13: return fitted();
            case 14: return table();
            case 15: case 16: return convert();
            case 17: return round();
            case 18: return machine();
            default: return compared("invalid()", model.invalid(), object::invalid);
        }
    }

    private String row() {
        int strain = next(8) == 0 ? near(scale) : lastStrain + 1 + next(scale / 32 + 1);
        int force = near(scale);
        String want = model.row(strain, force);
        if (isNumber(want)) {
            lastStrain = strain;
        }
        return compared("row(" + strain + ", " + force + ")", want, () -> object.row(strain, force));
    }

    private String section() {
        int area = near(next(2) == 0 ? 20 : 10_000);
        int slack = near(next(4) == 0 ? scale : scale / 20);
        return compared("section(" + area + ", " + slack + ")", model.section(area, slack), () -> {
            object.section(area, slack);
            return "";
        });
    }

    private String slope() {
        int from = near(scale / 2);
        int to = near(scale);
        int part = part();
        return compared("slope(" + from + ", " + to + ", " + part + ")", model.slope(from, to, part),
                () -> object.slope(from, to, part));
    }

    private String offset() {
        int share = near(next(3) == 0 ? scale : scale / 8);
        int part = part();
        return compared("offset(" + share + ", " + part + ")", model.offset(share, part),
                () -> object.offset(share, part));
    }

    private String peak() {
        int what = next(5) - 1;
        return compared("peak(" + what + ")", model.peak(what), () -> object.peak(what));
    }

    private String stretch() {
        int before = near(scale);
        int after = near(scale);
        int part = part();
        return compared("stretch(" + before + ", " + after + ", " + part + ")", model.stretch(before, after, part),
                () -> object.stretch(before, after, part));
    }

    private String impact() {
        int degrees = sign() * near(next(4) == 0 ? 200 : 3);
        int joules = near(400);
        return compared("impact(" + degrees + ", " + joules + ")", model.impact(degrees, joules),
                () -> object.impact(degrees, joules));
    }

    private String fitted() {
        int degrees = sign() * near(200);
        int part = part();
        return compared("fitted(" + degrees + ", " + part + ")", model.fitted(degrees, part),
                () -> object.fitted(degrees, part));
    }

    private String table() {
        int widest = Math.min(scale, 2_000);
        int x = next(8) == 0 ? near(widest) : lastX + 1 + next(widest / 8);
        int y = near(widest);
        String want = model.table(x, y);
        if (isNumber(want)) {
            lastX = x;
        }
        return compared("table(" + x + ", " + y + ")", want, () -> object.table(x, y));
    }

    private String convert() {
        int x = near(Math.min(scale, 2_000));
        int rule = rule();
        return compared("convert(" + x + ", " + rule + ")", model.convert(x, rule), () -> object.convert(x, rule));
    }

    private String round() {
        long times = next(2) == 0 ? 1 : 1_000_000;
        long upper = sign() * (near(scale) * times + next(3) - 1);
        long lower = near(scale / 5) * times + next(2);
        int rule = rule();
        return compared("round(" + upper + ", " + lower + ", " + rule + ")", model.round(upper, lower, rule),
                () -> object.round(upper, lower, rule));
    }

    private String machine() {
        int told = near(scale);
        int read = next(3) == 0 ? near(scale) : told + sign() * (told / 100 + next(2));
        return compared("machine(" + told + ", " + read + ")", model.machine(told, read),
                () -> object.machine(told, read));
    }

    private String clear() {
        lastStrain = -1;
        return compared("clear()", model.clear(), () -> {
            object.clear();
            return "";
        });
    }

    private static boolean isNumber(String answer) {
        return !answer.endsWith("Exception");
    }

    private int part() {
        return next(12) == 0 ? next(2) * 3 - 1 : next(2);
    }

    private int rule() {
        return next(12) == 0 ? next(2) * 4 - 1 : next(3);
    }

    private int sign() {
        return next(2) * 2 - 1;
    }

    /** 0 to greatest, its two ends often, and at times what lies beyond them. */
    private int near(int greatest) {
        switch (next(30)) {
            case 0: return 0;
            case 1: return greatest;
            case 2: return greatest + 1;
            case 3: return -1;
            case 4: return 1_000_000 + next(2);
            case 5: return next(2) == 0 ? Integer.MIN_VALUE : Integer.MAX_VALUE;
            default: return next(greatest + 1);
        }
    }

    private int next(int bound) {
        state = state * 6_364_136_223_846_793_005L + 1_442_695_040_888_963_407L;
        return (int) ((state >>> 33) % bound);
    }
}
