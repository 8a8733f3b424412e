/**
 * Each argument that has a range: the least and the greatest value are taken, the first ones beyond them and those at
 * the ends of the type are refused. The other arguments of a call are good ones.
 */
public final class EdgesOfNumbersTest {
    private static final int MILLION = 1_000_000;
    private static final long MILLION_MILLIONS = 1_000_000_000_000L;

    private interface IntTaker {
        void take(int value);
    }

    private interface LongTaker {
        void take(long value);
    }

    public static void main(String[] args) {
        Due due = new Due();
        rows(due);
        section(due);
        slope(due);
        offset(due);
        peak(due);
        stretch(due);
        impacts(due);
        fitted(due);
        table(due);
        convert(due);
        round(due);
        machine(due);
        due.end();
    }

    private static void edges(Due due, String what, Class<? extends RuntimeException> kind, int least, int greatest,
            IntTaker taker) {
        due.takes(what + " " + least, () -> taker.take(least));
        due.takes(what + " " + greatest, () -> taker.take(greatest));
        for (int beyond : new int[] {least - 1, greatest + 1, Integer.MIN_VALUE, Integer.MAX_VALUE}) {
            due.refuses(what + " " + beyond, kind, () -> taker.take(beyond));
        }
    }

    private static void longEdges(Due due, String what, long least, long greatest, LongTaker taker) {
        due.takes(what + " " + least, () -> taker.take(least));
        due.takes(what + " " + greatest, () -> taker.take(greatest));
        for (long beyond : new long[] {least - 1, greatest + 1, Long.MIN_VALUE, Long.MIN_VALUE + 1, Long.MAX_VALUE}) {
            due.refuses(what + " " + beyond, Due.RANGE, () -> taker.take(beyond));
        }
    }

    /** "a STRAIN (millionths, 0 .. 1,000,000 ..) and a FORCE (newtons, 0 .. 1,000,000)". */
    private static void rows(Due due) {
        edges(due, "row's strain", Due.RANGE, 0, MILLION, value -> new StrainRows().row(value, 5));
        edges(due, "row's force", Due.RANGE, 0, MILLION, value -> new StrainRows().row(5, value));
        due.answers("a row of force 0 has it", 0, () -> Due.rows(5, 0).peak(0));
        due.answers("a row of force 1000000 has it", MILLION, () -> Due.rows(5, MILLION).peak(0));
        due.answers("a row of strain 0 has it", 0, () -> Due.rows(0, 5).peak(1));
        due.answers("a row of strain 1000000 has it", MILLION, () -> Due.rows(MILLION, 5).peak(1));
    }

    /** "area 1 .. 10,000" and "SLACK is a strain (0 .. 1,000,000 ..)". */
    private static void section(Due due) {
        edges(due, "section's area", Due.RANGE, 1, 10_000, value -> new StrainRows().section(value, 5));
        edges(due, "section's slack", Due.RANGE, 0, MILLION, value -> new StrainRows().section(5, value));
        due.answers("area 1 is told", 1_000, () -> sectioned(1, 0).peak(2));
        due.answers("area 10000 is told", 0, () -> sectioned(10_000, 0).peak(2));
        due.answers("slack 0 is told", 7, () -> sectioned(1, 0).peak(1));
        due.answers("slack 1000000 is told", 7 - MILLION, () -> sectioned(1, MILLION).peak(1));
    }

    private static StrainRows sectioned(int area, int slack) {
        StrainRows x = Due.rows(7, 1);
        x.section(area, slack);
        return x;
    }

    /** "strains are not 0 .. 1,000,000", "no such part". Two rows at each end let every span in range be answered. */
    private static void slope(Due due) {
        StrainRows x = Due.rows(0, 0, 1, 1, 999_999, 5, MILLION, 9);
        edges(due, "slope's part", Due.INDEX, 0, 1, value -> x.slope(0, MILLION, value));
        edges(due, "slope's from", Due.RANGE, 0, 999_999, value -> x.slope(value, MILLION, 0));
        edges(due, "slope's to", Due.RANGE, 1, MILLION, value -> x.slope(0, value, 0));
        due.fraction("the lowest span", 1, 1, part -> x.slope(0, 1, part));
        due.fraction("the highest span", 4, 1, part -> x.slope(999_999, MILLION, part));
        due.fraction("the widest span", 9, MILLION, part -> x.slope(0, MILLION, part));
        due.refuses("both below 0", Due.RANGE, () -> x.slope(-2, -1, 0));
        due.refuses("both above 1000000", Due.RANGE, () -> x.slope(1_000_001, 1_000_002, 0));
        due.refuses("from the least int to the greatest", Due.RANGE,
                () -> x.slope(Integer.MIN_VALUE, Integer.MAX_VALUE, 0));
    }

    /** "a SHARE (0 .. 1,000,000 millionths)", "no such part". */
    private static void offset(Due due) {
        StrainRows x = Due.rows(0, 0, 10, 100, MILLION, 0);
        x.slope(0, 10, 0);
        edges(due, "offset's part", Due.INDEX, 0, 1, value -> x.offset(5, value));
        edges(due, "offset's share", Due.RANGE, 0, MILLION, value -> x.offset(value, 0));
        due.fraction("the greatest share is met at the greatest strain", 0, 1, part -> x.offset(MILLION, part));
        due.fraction("share 0 has the rows on the line", Due.NONE_MET, 0, part -> x.offset(0, part));
    }

    /** "no such what". */
    private static void peak(Due due) {
        edges(due, "peak's what", Due.INDEX, 0, 2, value -> sectioned(1, 0).peak(value));
    }

    /** "lengths (1 .. 1,000,000)", "no such part". */
    private static void stretch(Due due) {
        StrainRows x = new StrainRows();
        edges(due, "stretch's part", Due.INDEX, 0, 1, value -> x.stretch(5, 6, value));
        edges(due, "stretch's before", Due.RANGE, 1, MILLION, value -> x.stretch(value, 5, 0));
        edges(due, "stretch's after", Due.RANGE, 1, MILLION, value -> x.stretch(5, value, 0));
        due.fraction("from 1 to 1", 0, 1, part -> x.stretch(1, 1, part));
        due.fraction("from 1 to 1000000", 999_999, 1, part -> x.stretch(1, MILLION, part));
        due.fraction("from 1000000 to 1", -999_999, MILLION, part -> x.stretch(MILLION, 1, part));
        due.fraction("from 1000000 to 1000000", 0, 1, part -> x.stretch(MILLION, MILLION, part));
    }

    /** "degrees (-200 .. 200) and joules (0 .. 400)". */
    private static void impacts(Due due) {
        edges(due, "impact's degrees", Due.RANGE, -200, 200, value -> new StrainRows().impact(value, 5));
        edges(due, "impact's joules", Due.RANGE, 0, 400, value -> new StrainRows().impact(5, value));
        StrainRows x = Due.impacts(-200, 0, 200, 400);
        due.fraction("the impact at -200 of 0", 0, 1, part -> x.fitted(-200, part));
        due.fraction("the impact at 200 of 400", 400, 1, part -> x.fitted(200, part));
    }

    /** "fitted at degrees (-200 .. 200)", "no such part". */
    private static void fitted(Due due) {
        StrainRows x = Due.impacts(0, 0, 1, 3);
        edges(due, "fitted's part", Due.INDEX, 0, 1, value -> x.fitted(5, value));
        edges(due, "fitted's degrees", Due.RANGE, -200, 200, value -> x.fitted(value, 0));
        due.fraction("fitted at -200", -600, 1, part -> x.fitted(-200, part));
        due.fraction("fitted at 200", 600, 1, part -> x.fitted(200, part));
    }

    /** "a value x and a value y (0 .. 2,000 each)". */
    private static void table(Due due) {
        edges(due, "table's x", Due.RANGE, 0, 2_000, value -> new StrainRows().table(value, 5));
        edges(due, "table's y", Due.RANGE, 0, 2_000, value -> new StrainRows().table(5, value));
        due.answers("a table row of y 0 has it", 0, () -> Due.table(5, 0).convert(5, 0));
        due.answers("a table row of y 2000 has it", 2_000, () -> Due.table(5, 2_000).convert(5, 0));
    }

    /** "the value (0 .. 2,000)", "no such rule". */
    private static void convert(Due due) {
        StrainRows x = Due.table(0, 1_999, 2_000, 1);
        edges(due, "convert's rule", Due.INDEX, 0, 2, value -> x.convert(5, value));
        edges(due, "convert's value", Due.RANGE, 0, 2_000, value -> x.convert(value, 0));
        due.answers("value 0", 1_999, () -> x.convert(0, 0));
        due.answers("value 2000", 1, () -> x.convert(2_000, 0));
    }

    /** "the lower number is not 1 .. 1,000,000,000,000, or the upper one not from -1,000,000,000,000 to ..". */
    private static void round(Due due) {
        StrainRows x = new StrainRows();
        edges(due, "round's rule", Due.INDEX, 0, 2, value -> x.round(5, 3, value));
        for (int rule = 0; rule <= 2; rule++) {
            int by = rule;
            longEdges(due, "round's lower", 1, MILLION_MILLIONS, value -> x.round(5, value, by));
            longEdges(due, "round's upper", -MILLION_MILLIONS, MILLION_MILLIONS, value -> x.round(value, 5, by));
        }
        due.answers("greatest over 1", MILLION_MILLIONS, () -> x.round(MILLION_MILLIONS, 1, 0));
        due.answers("least over 1", -MILLION_MILLIONS, () -> x.round(-MILLION_MILLIONS, 1, 0));
        due.answers("0 over the greatest", 0, () -> x.round(0, MILLION_MILLIONS, 2));
        due.answers("-1 over the greatest, down", -1, () -> x.round(-1, MILLION_MILLIONS, 2));
        due.answers("1 over the greatest, half up", 0, () -> x.round(1, MILLION_MILLIONS, 0));
        due.answers("numbers beyond an int are not cut", 3, () -> x.round(3L << 32, 1L << 32, 2));
        due.answers("the half of a lower number beyond an int", 2, () -> x.round(3L << 32, 1L << 33, 0));
    }

    /** "a told force and a read one (1 .. 1,000,000 each)". */
    private static void machine(Due due) {
        edges(due, "machine's told", Due.RANGE, 1, MILLION, value -> new StrainRows().machine(value, 5));
        edges(due, "machine's read", Due.RANGE, 1, MILLION, value -> new StrainRows().machine(5, value));
        StrainRows x = new StrainRows();
        due.holds("1 told, 1 read: not failed", !x.machine(1, 1));
        due.holds("1000000 told and read: not failed", !x.machine(MILLION, MILLION));
        due.holds("1 told, 1000000 read: failed", x.machine(1, MILLION));
        due.holds("1000000 told, 1 read: failed", x.machine(MILLION, 1));
    }
}
