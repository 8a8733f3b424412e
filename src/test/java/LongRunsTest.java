/** Long runs of calls, good and bad ones mixed, with what the model of the document answers to each. */
public final class LongRunsTest {
    private static final int RUNS = 3_000;
    private static final int CALLS = 512;

    // A row of numbers that is the same each time: a failing run can be told again.
    private long state;
    private String call = "";

    public static void main(String[] args) {
        Due due = new Due();
        for (int run = 0; run < RUNS; run++) {
            new LongRunsTest(run).play(due, run);
        }
        due.end();
    }

    private LongRunsTest(int run) {
        state = run * 7_919L + 17;
    }

    private void play(Due due, int run) {
        StrainRows object = new StrainRows();
        Model model = new Model();
        // Small numbers bring halves, ties and meetings at rows; great ones bring long products.
        int scale = new int[] {8, 100, 20_000, 1_000_000}[run % 4];
        for (int i = 0; i < CALLS; i++) {
            String pair = next(40) == 0 ? "clear" : oneCall(object, model, scale);
            if (pair.equals("clear")) {
                object.clear();
                model.clear();
            } else if (!pair.isEmpty()) {
                due.holds("run " + run + ", call " + i + ": " + call + " " + pair, false);
                return;
            }
        }
        due.holds("run " + run, true);
    }

    private interface Asked {
        Object answer();
    }

    /** Nothing if the two agree, else what they answered. */
    private String compared(String asked, String want, Asked call) {
        this.call = asked;
        String got;
        try {
            got = "" + call.answer();
        } catch (RuntimeException thrown) {
            got = thrown.getClass().getSimpleName();
        }
        return got.equals(want) ? "" : "answered " + got + ", due is " + want;
    }

    private int strainAhead = 0;

    private String oneCall(StrainRows object, Model model, int scale) {
        int part = next(12) == 0 ? next(2) * 3 - 1 : next(2);
        int rule = next(12) == 0 ? next(2) * 4 - 1 : next(3);
        switch (next(16)) {
            case 0: case 1: case 2: case 3: {
                int strain = next(15) == 0 ? near(scale) : strainAhead + 1 + next(Math.max(1, scale / 12));
                int force = near(scale);
                strainAhead = next(10) == 0 ? 0 : strain > 1_000_000 ? 0 : Math.max(0, strain);
                return compared("row(" + strain + ", " + force + ")", model.row(strain, force),
                        () -> object.row(strain, force));
            }
            case 4: {
                int area = near(next(2) == 0 ? 20 : 10_000);
                int slack = near(next(2) == 0 ? Math.max(1, scale / 20) : scale);
                return compared("section(" + area + ", " + slack + ")", model.section(area, slack), () -> {
                    object.section(area, slack);
                    return "";
                });
            }
            case 5: case 6: {
                int from = near(scale / 2);
                int to = near(scale);
                return compared("slope(" + from + ", " + to + ", " + part + ")", model.slope(from, to, part),
                        () -> object.slope(from, to, part));
            }
            case 7: case 8: {
                int share = near(next(3) == 0 ? scale : scale / 8);
                return compared("offset(" + share + ", " + part + ")", model.offset(share, part),
                        () -> object.offset(share, part));
            }
            case 9: {
                int what = next(5) - 1;
                return compared("peak(" + what + ")", model.peak(what), () -> object.peak(what));
            }
            case 10:
                return compared("invalid()", model.invalid(), object::invalid);
            case 11: {
                int told = near(scale);
                int read = next(3) == 0 ? near(scale) : told + (next(3) - 1) * (told / 100 + next(2));
                return compared("machine(" + told + ", " + read + ")", model.machine(told, read),
                        () -> object.machine(told, read));
            }
            default:
                return callOfTables(object, model, scale, part, rule);
        }
    }

    private String callOfTables(StrainRows object, Model model, int scale, int part, int rule) {
        int narrow = Math.min(scale, 2_000);
        switch (next(6)) {
            case 0: {
                int degrees = (next(2) * 2 - 1) * near(next(4) == 0 ? 200 : 3);
                int joules = near(400);
                return compared("impact(" + degrees + ", " + joules + ")", model.impact(degrees, joules),
                        () -> object.impact(degrees, joules));
            }
            case 1: {
                int degrees = (next(2) * 2 - 1) * near(200);
                return compared("fitted(" + degrees + ", " + part + ")", model.fitted(degrees, part),
                        () -> object.fitted(degrees, part));
            }
            case 2: {
                int x = near(narrow);
                int y = near(narrow);
                return compared("table(" + x + ", " + y + ")", model.table(x, y), () -> object.table(x, y));
            }
            case 3: {
                int x = near(narrow);
                return compared("convert(" + x + ", " + rule + ")", model.convert(x, rule),
                        () -> object.convert(x, rule));
            }
            case 4: {
                int before = near(scale);
                int after = near(scale);
                return compared("stretch(" + before + ", " + after + ", " + part + ")",
                        model.stretch(before, after, part), () -> object.stretch(before, after, part));
            }
            default: {
                long stretched = next(2) == 0 ? 1 : 1_000_000L;
                long upper = (next(2) * 2 - 1) * (near(scale) * stretched + next(3) - 1);
                long lower = near(Math.max(1, scale / 5)) * stretched + next(2);
                return compared("round(" + upper + ", " + lower + ", " + rule + ")", model.round(upper, lower, rule),
                        () -> object.round(upper, lower, rule));
            }
        }
    }

    /** 0 to greatest, its two ends often, and at times what lies beyond them. */
    private int near(int greatest) {
        switch (next(24)) {
            case 0:
                return 0;
            case 1:
                return greatest;
            case 2:
                return greatest + 1;
            case 3:
                return -1;
            case 4:
                return next(2) == 0 ? 1_000_000 + next(2) : next(2) == 0 ? Integer.MIN_VALUE : Integer.MAX_VALUE;
            default:
                return next(greatest + 1);
        }
    }

    private int next(int bound) {
        state = state * 6_364_136_223_846_793_005L + 1_442_695_040_888_963_407L;
        return (int) ((state >>> 33) % bound);
    }
}
