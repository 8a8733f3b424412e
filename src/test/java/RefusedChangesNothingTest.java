import java.util.ArrayList;
import java.util.List;
import java.util.Map;
import java.util.TreeMap;

/**
 * "What is refused changes nothing": in each of several states each call that is refused there is made on one of two
 * like objects. Both must then answer a long questioning the same, counts and what clear leaves among it.
 */
public final class RefusedChangesNothingTest {
    private interface State {
        StrainRows made();
    }

    private interface Call {
        Object on(StrainRows x);
    }

    private record Named(String name, Call call) { }

    private static final int[] NUMBERS = {
        Integer.MIN_VALUE, -201, -1, 0, 1, 5, 100, 401, 2_001, 10_001, 1_000_000, 1_000_001, Integer.MAX_VALUE};
    private static final int[] FEW = {-1, 0, 1, 2, 3};

    private final Due due;
    private final Map<String, Integer> refusals = new TreeMap<>();

    private RefusedChangesNothingTest(Due due) {
        this.due = due;
    }

    public static void main(String[] args) {
        Due due = new Due();
        RefusedChangesNothingTest test = new RefusedChangesNothingTest(due);
        test.in("a new object", StrainRows::new);
        test.in("one row", () -> Due.rows(5, 5));
        test.in("a test told whole", () -> told(true));
        test.in("a test whose check has not failed", () -> told(false));
        test.in("all rooms full", RefusedChangesNothingTest::full);
        test.in("cleared", () -> {
            StrainRows x = full();
            x.clear();
            return x;
        });
        for (String call : List.of("row", "section", "slope", "offset", "peak", "stretch", "impact", "fitted", "table",
                "convert", "round", "machine")) {
            due.holds(call + " has been refused at all", test.refusals.getOrDefault(call, 0) > 0);
        }
        due.end();
    }

    private static StrainRows told(boolean failed) {
        StrainRows x = Due.rows(0, 0, 10, 100, 20, 150, 40, 160, 60, 70);
        x.section(50, 2);
        x.slope(0, 10, 0);
        x.machine(100, failed ? 102 : 101);
        x.impact(-10, 20);
        x.impact(30, 45);
        x.table(10, 100);
        x.table(20, 133);
        return x;
    }

    private static StrainRows full() {
        StrainRows x = told(true);
        for (int i = 5; i < 40; i++) {
            x.row(60 + i, 30 + i % 3);
        }
        for (int i = 2; i < 8; i++) {
            x.impact(i * 20, 50 + i);
            x.table(i * 20, 200 - i);
        }
        return x;
    }

    private void in(String name, State state) {
        String untouched = questioned(state.made());
        for (Named call : calls()) {
            StrainRows x = state.made();
            String answer = asked(x, call.call);
            if (answer.endsWith("Exception")) {
                refusals.merge(call.name.substring(0, call.name.indexOf('(')), 1, Integer::sum);
                due.holds(name + ": " + call.name + " was refused with " + answer + " and changed nothing",
                        questioned(x).equals(untouched));
            }
        }
    }

    private static String asked(StrainRows x, Call call) {
        try {
            return "" + call.on(x);
        } catch (RuntimeException thrown) {
            return thrown.getClass().getSimpleName();
        }
    }

    private static List<Named> calls() {
        List<Named> calls = new ArrayList<>();
        for (int one : NUMBERS) {
            calls.add(new Named("peak(" + one + ")", x -> x.peak(one)));
            for (int two : NUMBERS) {
                String both = "(" + one + ", " + two + ")";
                calls.add(new Named("row" + both, x -> x.row(one, two)));
                calls.add(new Named("section" + both, x -> {
                    x.section(one, two);
                    return "";
                }));
                calls.add(new Named("impact" + both, x -> x.impact(one, two)));
                calls.add(new Named("table" + both, x -> x.table(one, two)));
                calls.add(new Named("machine" + both, x -> x.machine(one, two)));
                addWithPart(calls, one, two);
            }
            for (int part : FEW) {
                String both = "(" + one + ", " + part + ")";
                calls.add(new Named("offset" + both, x -> x.offset(one, part)));
                calls.add(new Named("fitted" + both, x -> x.fitted(one, part)));
                calls.add(new Named("convert" + both, x -> x.convert(one, part)));
            }
        }
        return calls;
    }

    private static void addWithPart(List<Named> calls, int one, int two) {
        for (int part : FEW) {
            String all = "(" + one + ", " + two + ", " + part + ")";
            calls.add(new Named("slope" + all, x -> x.slope(one, two, part)));
            calls.add(new Named("stretch" + all, x -> x.stretch(one, two, part)));
            calls.add(new Named("round" + all, x -> x.round(one, two, part)));
        }
    }

    /** What can be seen of an object. It is used up by this. */
    private static String questioned(StrainRows x) {
        StringBuilder seen = new StringBuilder();
        ask(x, seen);
        // Where there is room these tell the counts, and whether a refused strain or x counts as the last one.
        tell(seen, asked(x, y -> y.row(6, 7)));
        tell(seen, asked(x, y -> y.row(61, 8)));
        tell(seen, asked(x, y -> y.impact(7, 77)));
        tell(seen, asked(x, y -> y.table(11, 44)));
        tell(seen, asked(x, y -> y.table(21, 55)));
        ask(x, seen);
        askSlopes(x, seen);
        x.clear();
        ask(x, seen);
        Due.addRows(x, 0, 1, 1, 3, 2, 2, 3, 2, 4, 1);
        ask(x, seen);
        x.section(1, 0);
        ask(x, seen);
        return seen.toString();
    }

    private static void ask(StrainRows x, StringBuilder seen) {
        tell(seen, asked(x, StrainRows::invalid));
        for (int what = 0; what <= 2; what++) {
            int asked = what;
            tell(seen, asked(x, y -> y.peak(asked)));
        }
        for (int share = 0; share <= 60; share += 6) {
            int by = share;
            tell(seen, asked(x, y -> y.offset(by, 0)));
            tell(seen, asked(x, y -> y.offset(by, 1)));
        }
        for (int degrees = -200; degrees <= 200; degrees += 100) {
            int at = degrees;
            tell(seen, asked(x, y -> y.fitted(at, 0)));
            tell(seen, asked(x, y -> y.fitted(at, 1)));
        }
        for (int value : new int[] {0, 10, 11, 20, 21, 39, 40, 140, 141, 2_000}) {
            tell(seen, asked(x, y -> y.convert(value, 0)));
        }
    }

    private static void askSlopes(StrainRows x, StringBuilder seen) {
        for (int[] span : new int[][] {{0, 10}, {10, 40}, {41, 1_000_000}, {0, 1_000_000}, {98, 99}}) {
            tell(seen, asked(x, y -> y.slope(span[0], span[1], 0)));
            tell(seen, asked(x, y -> y.slope(span[0], span[1], 1)));
            tell(seen, asked(x, y -> y.offset(4, 0)));
        }
    }

    private static void tell(StringBuilder seen, String answer) {
        seen.append(answer).append('\n');
    }
}
