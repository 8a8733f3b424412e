import java.math.BigDecimal;
import java.math.BigInteger;
import java.math.RoundingMode;
import java.util.ArrayList;
import java.util.List;

/**
 * The document once more, in another way than the class: lists, numbers without bounds, each rule as its words say.
 * A call answers its number, or one of the texts of the refusals.
 */
final class Model {
    static final String INDEX = "IndexOutOfBoundsException";
    static final String TURN = "IllegalStateException";
    static final String RANGE = "IllegalArgumentException";
    static final String MEANING = "UnsupportedOperationException";

    private record Pair(int one, int two) { }

    /** A fraction that is brought to lowest terms, its lower number above 0. */
    private record Ratio(BigInteger upper, BigInteger lower) {
        static Ratio of(long upper, long lower) {
            return new Ratio(BigInteger.valueOf(upper), BigInteger.valueOf(lower)).lowest();
        }

        Ratio lowest() {
            BigInteger divisor = upper.gcd(lower);
            BigInteger by = lower.signum() < 0 ? divisor.negate() : divisor;
            return new Ratio(upper.divide(by), lower.divide(by));
        }

        Ratio plus(Ratio other) {
            return new Ratio(upper.multiply(other.lower).add(other.upper.multiply(lower)), lower.multiply(other.lower))
                    .lowest();
        }

        Ratio minus(Ratio other) {
            return plus(other.times(of(-1, 1)));
        }

        Ratio times(Ratio other) {
            return new Ratio(upper.multiply(other.upper), lower.multiply(other.lower)).lowest();
        }

        Ratio over(Ratio other) {
            return new Ratio(upper.multiply(other.lower), lower.multiply(other.upper)).lowest();
        }

        int compare(Ratio other) {
            return minus(other).upper.signum();
        }

        String part(int part) {
            return (part == 0 ? upper : lower).toString();
        }

        /** Ratio to decimal would not end; the doubled rest tells the half exactly. */
        BigInteger rounded(int rule) {
            BigInteger[] parts = upper.divideAndRemainder(lower);
            BigInteger floor = parts[1].signum() < 0 ? parts[0].subtract(BigInteger.ONE) : parts[0];
            int half = upper.subtract(floor.multiply(lower)).shiftLeft(1).compareTo(lower);
            BigDecimal near = new BigDecimal(floor).add(new BigDecimal(half < 0 ? "0.25" : half == 0 ? "0.5" : "0.75"));
            if (upper.mod(lower).signum() == 0) {
                return floor;
            }
            if (rule == 1) {
                return near.setScale(0, RoundingMode.HALF_EVEN).toBigIntegerExact();
            }
            BigDecimal moved = rule == 0 ? near.add(new BigDecimal("0.5")) : near;
            return moved.setScale(0, RoundingMode.FLOOR).toBigIntegerExact();
        }
    }

    private final List<Pair> rows = new ArrayList<>();
    private final List<Pair> impacts = new ArrayList<>();
    private final List<Pair> table = new ArrayList<>();
    private int area;
    private int slack;
    private Ratio modulus;
    private boolean failed;

    private static boolean out(long number, long least, long greatest) {
        return number < least || number > greatest;
    }

    String row(int strain, int force) {
        if (out(strain, 0, 1_000_000) || out(force, 0, 1_000_000)
                || rows.stream().anyMatch(row -> row.one >= strain)) {
            return RANGE;
        }
        return added(rows, 40, new Pair(strain, force));
    }

    private static String added(List<Pair> list, int room, Pair pair) {
        if (list.size() == room) {
            return MEANING;
        }
        list.add(pair);
        return "" + list.size();
    }

    String section(int newArea, int newSlack) {
        if (out(newArea, 1, 10_000) || out(newSlack, 0, 1_000_000)) {
            return RANGE;
        }
        area = newArea;
        slack = newSlack;
        return "";
    }

    String slope(int from, int to, int part) {
        if (out(part, 0, 1)) {
            return INDEX;
        }
        if (out(from, 0, 1_000_000) || out(to, 0, 1_000_000) || from >= to) {
            return RANGE;
        }
        List<Pair> inside = rows.stream().filter(row -> !out(row.one, from, to)).toList();
        if (inside.size() < 2) {
            return MEANING;
        }
        Pair first = inside.get(0);
        Pair last = inside.get(inside.size() - 1);
        Ratio slope = Ratio.of(last.two - first.two, last.one - first.one);
        if (slope.upper.signum() > 0) {
            modulus = slope;
        }
        return slope.part(part);
    }

    private Ratio line(int share, Ratio strain) {
        return modulus.times(strain.minus(Ratio.of((long) slack + share, 1)));
    }

    private boolean above(Pair row, int share) {
        return Ratio.of(row.two, 1).compare(line(share, Ratio.of(row.one, 1))) > 0;
    }

    String offset(int share, int part) {
        if (out(part, 0, 1)) {
            return INDEX;
        }
        if (modulus == null) {
            return TURN;
        }
        if (out(share, 0, 1_000_000)) {
            return RANGE;
        }
        for (int i = 1; i < rows.size(); i++) {
            Pair ahead = rows.get(i - 1);
            Pair here = rows.get(i);
            if (!above(here, share) && above(ahead, share)) {
                Ratio join = Ratio.of(here.two - ahead.two, here.one - ahead.one);
                // force + join * (strain - row's strain) = modulus * (strain - start), solved for the strain.
                Ratio known = Ratio.of(ahead.two, 1).minus(join.times(Ratio.of(ahead.one, 1)))
                        .plus(modulus.times(Ratio.of((long) slack + share, 1)));
                return line(share, known.over(modulus.minus(join))).part(part);
            }
        }
        return part == 0 ? "" + Long.MIN_VALUE : "0";
    }

    private int peakRow() {
        int greatest = rows.stream().mapToInt(Pair::two).max().orElseThrow();
        return rows.stream().map(Pair::two).toList().indexOf(greatest);
    }

    String peak(int what) {
        if (out(what, 0, 2)) {
            return INDEX;
        }
        if (rows.isEmpty() || what == 2 && area == 0) {
            return TURN;
        }
        Pair peak = rows.get(peakRow());
        if (what == 0) {
            return "" + peak.two;
        }
        return what == 1 ? "" + (peak.one - slack) : Ratio.of(peak.two * 1_000L, area).rounded(2).toString();
    }

    String stretch(int before, int after, int part) {
        if (out(part, 0, 1)) {
            return INDEX;
        }
        return out(before, 1, 1_000_000) || out(after, 1, 1_000_000) ? RANGE
                : Ratio.of(after - before, before).part(part);
    }

    String impact(int degrees, int joules) {
        return out(degrees, -200, 200) || out(joules, 0, 400) ? RANGE : added(impacts, 8, new Pair(degrees, joules));
    }

    String fitted(int degrees, int part) {
        if (out(part, 0, 1)) {
            return INDEX;
        }
        if (impacts.stream().map(Pair::one).distinct().count() < 2) {
            return TURN;
        }
        if (out(degrees, -200, 200)) {
            return RANGE;
        }
        long n = impacts.size();
        long x = impacts.stream().mapToLong(Pair::one).sum();
        long y = impacts.stream().mapToLong(Pair::two).sum();
        long xy = impacts.stream().mapToLong(pair -> (long) pair.one * pair.two).sum();
        long xx = impacts.stream().mapToLong(pair -> (long) pair.one * pair.one).sum();
        Ratio slope = Ratio.of(n * xy - x * y, n * xx - x * x);
        Ratio atZero = Ratio.of(y, 1).minus(slope.times(Ratio.of(x, 1))).over(Ratio.of(n, 1));
        return atZero.plus(slope.times(Ratio.of(degrees, 1))).part(part);
    }

    String table(int x, int y) {
        if (out(x, 0, 2_000) || out(y, 0, 2_000) || table.stream().anyMatch(row -> row.one >= x)) {
            return RANGE;
        }
        return added(table, 8, new Pair(x, y));
    }

    String convert(int x, int rule) {
        if (out(rule, 0, 2)) {
            return INDEX;
        }
        if (table.isEmpty()) {
            return TURN;
        }
        if (out(x, 0, 2_000)) {
            return RANGE;
        }
        for (int i = 0; i < table.size(); i++) {
            Pair here = table.get(i);
            if (here.one == x) {
                return "" + here.two;
            }
            if (i > 0 && table.get(i - 1).one < x && x < here.one) {
                Pair ahead = table.get(i - 1);
                return Ratio.of(here.two - ahead.two, here.one - ahead.one).times(Ratio.of(x - ahead.one, 1))
                        .plus(Ratio.of(ahead.two, 1)).rounded(rule).toString();
            }
        }
        return MEANING;
    }

    String round(long upper, long lower, int rule) {
        if (out(rule, 0, 2)) {
            return INDEX;
        }
        long greatest = 1_000_000_000_000L;
        return out(lower, 1, greatest) || out(upper, -greatest, greatest) ? RANGE
                : Ratio.of(upper, lower).rounded(rule).toString();
    }

    String machine(int told, int read) {
        if (out(told, 1, 1_000_000) || out(read, 1, 1_000_000)) {
            return RANGE;
        }
        failed = Math.abs((long) told - read) * 100 > told;
        return "" + failed;
    }

    String invalid() {
        if (area == 0) {
            return "1";
        }
        if (rows.size() < 5) {
            return "2";
        }
        int peak = peakRow();
        if (peak == 0) {
            return "3";
        }
        List<Pair> behind = rows.subList(peak + 1, rows.size());
        boolean falls = behind.stream().anyMatch(row -> 2L * row.two < rows.get(peak).two);
        if (!falls && !behind.isEmpty()) {
            return "4";
        }
        return failed ? "5" : "0";
    }

    String clear() {
        rows.clear();
        area = 0;
        slack = 0;
        modulus = null;
        failed = false;
        return "";
    }
}
