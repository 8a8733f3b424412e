/** Each sentence of the document's "Terms" that draws a line: what lies just on one side of it, and on the other. */
public final class EdgesOfTermsTest {
    private static final int MILLION = 1_000_000;

    public static void main(String[] args) {
        Due due = new Due();
        lowestTerms(due);
        strainsRise(due);
        slackIsZeroAtFirst(due);
        spansEndsAreInIt(due);
        spanNeedsTwoRows(due);
        slopeAboveZeroIsKept(due);
        notAboveTheLine(due);
        aheadAboveTheLine(due);
        fromRowOneOn(due);
        firstMeeting(due);
        lineBeginsAtSlackAndShare(due);
        noneIsMet(due);
        peakOfTheSameTheFirst(due);
        strengthIsRoundedDown(due);
        noAreaAtFirst(due);
        fitNeedsOtherDegrees(due);
        fitBeyondTheImpacts(due);
        tableRowsAndJoins(due);
        tablesEnds(due);
        halfUp(due);
        halfToEven(due);
        down(due);
        checkFailsAboveOnePercent(due);
        latestCheckCounts(due);
        due.end();
    }

    /** "Fractions are told in lowest terms, part 0 the upper, 1 the lower number (above 0)." */
    private static void lowestTerms(Due due) {
        StrainRows x = Due.rows(0, 100, 50, 100, 150, 0, 160, 25);
        due.fraction("a slope of 0", 0, 1, part -> x.slope(0, 50, part));
        due.fraction("a slope of -100 over 100", -1, 1, part -> x.slope(50, 150, part));
        due.fraction("a slope of -100 over 150", -2, 3, part -> x.slope(0, 150, part));
        due.fraction("a slope of 25 over 10", 5, 2, part -> x.slope(150, 160, part));
        due.fraction("a stretch of 0 over 1000000", 0, 1, part -> x.stretch(MILLION, MILLION, part));
        due.fraction("a stretch of -500000 over 1000000", -1, 2, part -> x.stretch(MILLION, 500_000, part));
        due.fraction("a stretch of 1 over 999999", 1, 999_999, part -> x.stretch(999_999, MILLION, part));
        StrainRows fit = Due.impacts(0, 0, 200, 100);
        due.fraction("a fit of 0", 0, 1, part -> fit.fitted(0, part));
        due.fraction("a fit of 1 over 2", 1, 2, part -> fit.fitted(1, part));
        due.fraction("a fit of -1 over 2", -1, 2, part -> fit.fitted(-1, part));
        StrainRows proof = Due.rows(0, 0, 10, 20, 20, 20, 40, 20, 60, 0);
        proof.slope(0, 10, 0);
        due.fraction("a proof of 20 over 1", 20, 1, part -> proof.offset(4, part));
        due.fraction("a proof of 0", 0, 1, part -> proof.offset(60, part));
        due.fraction("a proof of 40 over 3", 40, 3, part -> proof.offset(40, part));
    }

    /** "rising from row to row". */
    private static void strainsRise(Due due) {
        StrainRows x = Due.rows(0, 1, 500, 1);
        due.refuses("one below", Due.RANGE, () -> x.row(499, 1));
        due.refuses("the same", Due.RANGE, () -> x.row(500, 1));
        due.refuses("below the first one's too", Due.RANGE, () -> x.row(0, 1));
        due.answers("one above", 3, () -> x.row(501, 1));
        StrainRows table = Due.table(0, 1, 500, 1);
        due.refuses("an x one below", Due.RANGE, () -> table.table(499, 1));
        due.refuses("the same x", Due.RANGE, () -> table.table(500, 1));
        due.answers("an x one above", 3, () -> table.table(501, 1));
    }

    /** "SLACK is a strain (0 .. 1,000,000; 0 at first)". */
    private static void slackIsZeroAtFirst(Due due) {
        StrainRows x = Due.rows(3, 7, 13, 107, 23, 107);
        due.answers("the peak's strain before a section", 13, () -> x.peak(1));
        x.slope(3, 13, 0);
        due.fraction("the line before a section begins at the share", 107, 1, part -> x.offset(5, part));
    }

    /** "from the first row in it (its ends too) to the last one in it". */
    private static void spansEndsAreInIt(Due due) {
        StrainRows x = Due.rows(10, 0, 20, 1, 30, 3, 40, 7);
        due.fraction("both ends at rows", 3, 10, part -> x.slope(20, 40, part));
        due.fraction("one above the lower end", 2, 5, part -> x.slope(21, 40, part));
        due.fraction("one below the lower end's row", 3, 10, part -> x.slope(19, 40, part));
        due.fraction("one below the upper end", 1, 5, part -> x.slope(20, 39, part));
        due.fraction("one above the upper end's row", 3, 10, part -> x.slope(20, 41, part));
        due.fraction("rows between the first and the last do not count", 7, 30, part -> x.slope(10, 40, part));
    }

    /** "it needs two rows", "from below to". */
    private static void spanNeedsTwoRows(Due due) {
        StrainRows x = Due.rows(10, 0, 20, 1, 21, 3);
        due.refuses("from one above to", Due.RANGE, () -> x.slope(21, 20, 0));
        due.refuses("from is to", Due.RANGE, () -> x.slope(20, 20, 0));
        due.fraction("from one below to, rows at both", 2, 1, part -> x.slope(20, 21, part));
        due.refuses("from one below to, a row at from", Due.MEANING, () -> x.slope(10, 11, 0));
        due.refuses("from one below to, a row at to", Due.MEANING, () -> x.slope(19, 20, 0));
        due.refuses("no row in the span", Due.MEANING, () -> x.slope(11, 19, 0));
        due.refuses("all rows below the span", Due.MEANING, () -> x.slope(22, MILLION, 0));
        due.refuses("all rows above the span", Due.MEANING, () -> x.slope(0, 9, 0));
    }

    /** "and is kept as THE MODULUS when it is above 0". */
    private static void slopeAboveZeroIsKept(Due due) {
        StrainRows level = Due.rows(0, 5, MILLION, 5);
        level.slope(0, MILLION, 0);
        due.refuses("0 is not kept", Due.TURN, () -> level.offset(0, 0));
        StrainRows falling = Due.rows(0, 1, MILLION, 0);
        falling.slope(0, MILLION, 0);
        due.refuses("the least below 0 is not kept", Due.TURN, () -> falling.offset(0, 0));
        StrainRows least = Due.rows(0, 0, MILLION, 1);
        least.slope(0, MILLION, 1);
        due.fraction("the least above 0 is kept", Due.NONE_MET, 0, part -> least.offset(0, part));
        StrainRows greatest = Due.rows(0, 0, 1, MILLION, 2, MILLION);
        greatest.slope(0, 1, 1);
        due.fraction("the greatest is kept", MILLION, 1, part -> greatest.offset(1, part));
        greatest.slope(1, 2, 0);
        due.fraction("a slope of 0 leaves it", MILLION, 1, part -> greatest.offset(1, part));
    }

    /** "at which the force is not above the line's": on it is enough. */
    private static void notAboveTheLine(Due due) {
        StrainRows on = Due.rows(0, 0, 1, 10, 2, 10);
        on.slope(0, 1, 0);
        due.fraction("on the line", 10, 1, part -> on.offset(1, part));
        StrainRows above = Due.rows(0, 0, 1, 10, 2, 11);
        above.slope(0, 1, 0);
        due.fraction("1 above the line", Due.NONE_MET, 0, part -> above.offset(1, part));
        StrainRows below = Due.rows(0, 0, 1, 10, 2, 9);
        below.slope(0, 1, 0);
        due.fraction("1 below the line", 100, 11, part -> below.offset(1, part));
    }

    /** "while at the row ahead it is above": on it is not enough. */
    private static void aheadAboveTheLine(Due due) {
        StrainRows on = Due.rows(0, 0, 1, 10, 2, 15, 3, 16);
        on.slope(0, 1, 0);
        due.fraction("each row ahead on or below the line", Due.NONE_MET, 0, part -> on.offset(0, part));
        StrainRows above = Due.rows(0, 1, 1, 11, 2, 15, 3, 16);
        above.slope(0, 1, 0);
        due.fraction("1 above the line ahead", 35, 3, part -> above.offset(0, part));
    }

    /** "the first row, from row 1 on". */
    private static void fromRowOneOn(Due due) {
        StrainRows atOne = Due.rows(0, 1, 10, 0, 20, 10);
        atOne.slope(10, 20, 0);
        due.fraction("met at row 1", 0, 1, part -> atOne.offset(10, part));
        StrainRows belowAtZero = Due.rows(10, 0, 20, 10);
        belowAtZero.slope(10, 20, 0);
        due.fraction("row 0 below the line has no row ahead", Due.NONE_MET, 0, part -> belowAtZero.offset(0, part));
    }

    /** "it is met at the first row". */
    private static void firstMeeting(Due due) {
        StrainRows x = Due.rows(0, 0, 10, 10, 20, 15, 30, 40, 40, 20, 50, 100, 60, 10);
        x.slope(0, 10, 0);
        due.fraction("the first of three", 15, 1, part -> x.offset(5, part));
        due.fraction("the second of three, as the first is none", 80, 3, part -> x.offset(10, part));
        due.fraction("the third, as the others are none", 149, 5, part -> x.offset(28, part));
    }

    /** "through force 0 at strain slack + share". */
    private static void lineBeginsAtSlackAndShare(Due due) {
        StrainRows x = Due.rows(0, 0, 10, 100, MILLION, 0);
        x.slope(0, 10, 0);
        x.section(1, MILLION);
        due.fraction("slack 1000000 and share 0", 0, 1, part -> x.offset(0, part));
        due.fraction("slack 1000000 and share 1", Due.NONE_MET, 0, part -> x.offset(1, part));
        x.section(1, 1);
        due.fraction("slack 1 and share 999999", 0, 1, part -> x.offset(999_999, part));
        due.fraction("slack 1 and share 1000000", Due.NONE_MET, 0, part -> x.offset(MILLION, part));
        x.section(1, 0);
        due.fraction("slack 0 and share 1000000", 0, 1, part -> x.offset(MILLION, part));
        x.section(1, MILLION);
        due.fraction("slack and share 1000000", Due.NONE_MET, 0, part -> x.offset(MILLION, part));
    }

    /** "NONE is met: part 0 is the least long, part 1 is 0." */
    private static void noneIsMet(Due due) {
        StrainRows x = Due.rows(0, 0, 10, 10);
        x.slope(0, 10, 0);
        due.answers("part 0", -9_223_372_036_854_775_807L - 1, () -> x.offset(0, 0));
        due.answers("part 1", 0, () -> x.offset(0, 1));
        due.refuses("part 2 of none", Due.INDEX, () -> x.offset(0, 2));
        due.refuses("part -1 of none", Due.INDEX, () -> x.offset(0, -1));
    }

    /** "THE PEAK is the greatest force, of the same the first one". */
    private static void peakOfTheSameTheFirst(Due due) {
        StrainRows x = Due.rows(0, 7, 10, 8, 20, 8, 30, 8);
        due.answers("of three", 10, () -> x.peak(1));
        x.row(40, 9);
        due.answers("1 more later", 40, () -> x.peak(1));
        StrainRows zeros = Due.rows(5, 0, 6, 0);
        due.answers("of force 0", 5, () -> zeros.peak(1));
    }

    /** "force * 1,000 / area, rounded down". */
    private static void strengthIsRoundedDown(Due due) {
        due.answers("9 on 10000", 0, () -> strength(9, 10_000));
        due.answers("10 on 10000", 1, () -> strength(10, 10_000));
        due.answers("19 on 10000", 1, () -> strength(19, 10_000));
        due.answers("1 on 1001", 0, () -> strength(1, 1_001));
        due.answers("1 on 1000", 1, () -> strength(1, 1_000));
        due.answers("1000000 on 3", 333_333_333, () -> strength(MILLION, 3));
        due.answers("1000000 on 1", 1_000_000_000, () -> strength(MILLION, 1));
        due.answers("1000000 on 9999", 100_010, () -> strength(MILLION, 9_999));
        due.answers("0 on 1", 0, () -> strength(0, 1));
    }

    private static int strength(int force, int area) {
        StrainRows x = Due.rows(0, force);
        x.section(area, 0);
        return x.peak(2);
    }

    /** "area 1 .. 10,000; 0 at first: none told". */
    private static void noAreaAtFirst(Due due) {
        StrainRows x = Due.rows(0, 5);
        due.refuses("strength before a section", Due.TURN, () -> x.peak(2));
        due.refuses("an area of 0", Due.RANGE, () -> x.section(0, 0));
        due.refuses("strength after the refused 0", Due.TURN, () -> x.peak(2));
        due.answers("no area told", 1, x::invalid);
        x.section(10_000, 0);
        due.refuses("an area of 0 later", Due.RANGE, () -> x.section(0, 0));
        due.answers("the area stays told", 2, x::invalid);
    }

    /** "two or more, not all of the same degrees". */
    private static void fitNeedsOtherDegrees(Due due) {
        StrainRows x = Due.impacts(200, 1, 200, 2, 200, 3);
        due.refuses("three of 200 degrees", Due.TURN, () -> x.fitted(200, 0));
        x.impact(199, 2);
        due.fraction("one of 199 among them", 2, 1, part -> x.fitted(-200, part));
        StrainRows mirrored = Due.impacts(-7, 1, -7, 3);
        due.refuses("two of -7 degrees", Due.TURN, () -> mirrored.fitted(0, 0));
        mirrored.impact(7, 2);
        due.fraction("7 and -7 are not the same", 2, 1, part -> mirrored.fitted(0, part));
    }

    /** The fit goes on beyond the impacts, below 0 joules and above 400. */
    private static void fitBeyondTheImpacts(Due due) {
        StrainRows steep = Due.impacts(0, 0, 1, 400);
        due.fraction("the steepest at 200", 80_000, 1, part -> steep.fitted(200, part));
        due.fraction("the steepest at -200", -80_000, 1, part -> steep.fitted(-200, part));
        StrainRows fall = Due.impacts(199, 400, 200, 0);
        due.fraction("the steepest fall at -200", 160_000, 1, part -> fall.fitted(-200, part));
    }

    /** "at a value that of the row, between two rows on their join". */
    private static void tableRowsAndJoins(Due due) {
        StrainRows x = Due.table(0, 2_000, 1, 0, 2, 2_000, 2_000, 2);
        due.answers("at row 0", 2_000, () -> x.convert(0, 0));
        due.answers("at row 1", 0, () -> x.convert(1, 0));
        due.answers("at row 2", 2_000, () -> x.convert(2, 0));
        due.answers("one behind row 2", 1_999, () -> x.convert(3, 2));
        due.answers("one ahead of row 3", 3, () -> x.convert(1_999, 2));
        due.answers("at row 3", 2, () -> x.convert(2_000, 0));
    }

    /** "below the first one, above the last one there is none". */
    private static void tablesEnds(Due due) {
        StrainRows x = Due.table(1, 5, 1_999, 5);
        for (int rule = 0; rule <= 2; rule++) {
            int by = rule;
            due.refuses("one below the first", Due.MEANING, () -> x.convert(0, by));
            due.answers("at the first", 5, () -> x.convert(1, by));
            due.answers("at the last", 5, () -> x.convert(1_999, by));
            due.refuses("one above the last", Due.MEANING, () -> x.convert(2_000, by));
        }
    }

    private static void rounded(Due due, int rule, long upper, long lower, long want) {
        due.answers("round(" + upper + ", " + lower + ", " + rule + ")", want,
                () -> new StrainRows().round(upper, lower, rule));
    }

    /** "0 half up (a half goes to the greater number)". */
    private static void halfUp(Due due) {
        rounded(due, 0, 49, 100, 0);
        rounded(due, 0, 50, 100, 1);
        rounded(due, 0, 51, 100, 1);
        rounded(due, 0, 150, 100, 2);
        rounded(due, 0, -49, 100, 0);
        rounded(due, 0, -50, 100, 0);
        rounded(due, 0, -51, 100, -1);
        rounded(due, 0, -150, 100, -1);
        rounded(due, 0, 1, 3, 0);
        rounded(due, 0, 2, 3, 1);
        rounded(due, 0, 499_999_999_999L, 999_999_999_999L, 0);
        rounded(due, 0, 500_000_000_000L, 999_999_999_999L, 1);
    }

    /** "1 half to even". */
    private static void halfToEven(Due due) {
        rounded(due, 1, 49, 100, 0);
        rounded(due, 1, 50, 100, 0);
        rounded(due, 1, 51, 100, 1);
        rounded(due, 1, 149, 100, 1);
        rounded(due, 1, 150, 100, 2);
        rounded(due, 1, 151, 100, 2);
        rounded(due, 1, 250, 100, 2);
        rounded(due, 1, -49, 100, 0);
        rounded(due, 1, -50, 100, 0);
        rounded(due, 1, -51, 100, -1);
        rounded(due, 1, -149, 100, -1);
        rounded(due, 1, -150, 100, -2);
        rounded(due, 1, -151, 100, -2);
        rounded(due, 1, -250, 100, -2);
        rounded(due, 1, 999_999_999_999L, 2, 500_000_000_000L);
        rounded(due, 1, -999_999_999_999L, 2, -500_000_000_000L);
        rounded(due, 1, 999_999_999_997L, 2, 499_999_999_998L);
    }

    /** "2 down (to the lower number)". */
    private static void down(Due due) {
        rounded(due, 2, 99, 100, 0);
        rounded(due, 2, 100, 100, 1);
        rounded(due, 2, 1, 100, 0);
        rounded(due, 2, 0, 100, 0);
        rounded(due, 2, -1, 100, -1);
        rounded(due, 2, -99, 100, -1);
        rounded(due, 2, -100, 100, -1);
        rounded(due, 2, -101, 100, -2);
    }

    private static void checked(Due due, int told, int read, boolean failed) {
        due.holds("machine(" + told + ", " + read + ") is " + failed,
                new StrainRows().machine(told, read) == failed);
    }

    /** "FAILED when their difference (without sign) times 100 is above the told one". */
    private static void checkFailsAboveOnePercent(Due due) {
        checked(due, 100, 101, false);
        checked(due, 100, 99, false);
        checked(due, 99, 100, true);
        checked(due, 99, 98, true);
        checked(due, 101, 102, false);
        checked(due, 101, 103, true);
        checked(due, 200, 202, false);
        checked(due, 200, 203, true);
        checked(due, 200, 198, false);
        checked(due, 200, 197, true);
        checked(due, 101, 100, false);
        checked(due, 1, 2, true);
        checked(due, 1, 1, false);
        checked(due, 990_099, MILLION, true);
        checked(due, 990_100, MILLION, false);
        checked(due, MILLION, 990_000, false);
        checked(due, MILLION, 989_999, true);
    }

    /** "the latest one counts". */
    private static void latestCheckCounts(Due due) {
        StrainRows x = Due.rows(0, 0, 1, 10, 2, 9, 3, 8, 4, 4);
        x.section(1, 0);
        due.answers("no check", 0, x::invalid);
        x.machine(1, 2);
        due.answers("a failed one", 5, x::invalid);
        x.machine(1, 2);
        due.answers("two failed ones", 5, x::invalid);
        x.machine(1, 1);
        due.answers("a good one behind them", 0, x::invalid);
        x.machine(2, 1);
        due.answers("a failed one behind it", 5, x::invalid);
    }
}
