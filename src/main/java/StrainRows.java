/**
 * Tests of steel: strain rows, slopes, proof strengths, peaks, stretch, impacts, hardness tables,
 * rounding, machine checks and validity. All arithmetic is exact, on whole numbers.
 */
public final class StrainRows {
    private static final int MOST_ROWS = 40;
    private static final int MOST_IMPACTS = 8;
    private static final int MOST_TABLE_ROWS = 8;

    private static final int GREATEST_STRAIN = 1_000_000;
    private static final int GREATEST_FORCE = 1_000_000;
    private static final int GREATEST_AREA = 10_000;
    private static final int GREATEST_LENGTH = 1_000_000;
    private static final int GREATEST_DEGREES = 200;
    private static final int GREATEST_JOULES = 400;
    private static final int GREATEST_TABLE_VALUE = 2_000;
    private static final long GREATEST_FRACTION_NUMBER = 1_000_000_000_000L;

    private static final int UPPER = 0;
    private static final int LOWER = 1;

    private static final int PEAK_FORCE = 0;
    private static final int PEAK_STRAIN = 1;
    private static final int PEAK_STRENGTH = 2;

    private static final int HALF_UP = 0;
    private static final int HALF_TO_EVEN = 1;
    private static final int DOWN = 2;

    private static final long NONE_MET = -9_223_372_036_854_775_808L;
    private static final int NO_ROW = -1;
    private static final int FEWEST_VALID_ROWS = 5;

    // Euclid's way needs fewer than 92 steps for any two longs.
    private static final int MOST_DIVISOR_STEPS = 100;

    private final int[] strains;
    private final int[] forces;
    private int rowCount;
    private int area;
    private int slack;
    // Both are 0 while there is no modulus.
    private long modulusUpper;
    private long modulusLower;
    private boolean checkFailed;

    // The fit rests on the impacts' sums alone, so that the impacts themselves are not kept.
    private int impactCount;
    private long degreesSum;
    private long joulesSum;
    private long productsSum;
    private long squaresSum;

    private final int[] tableXs;
    private final int[] tableYs;
    private int tableCount;

    public StrainRows() {
        strains = new int[MOST_ROWS];
        forces = new int[MOST_ROWS];
        tableXs = new int[MOST_TABLE_ROWS];
        tableYs = new int[MOST_TABLE_ROWS];
    }

    public int row(int strain, int force) throws IllegalArgumentException, UnsupportedOperationException {
        if (!isWithin(strain, 0, GREATEST_STRAIN) || !isWithin(force, 0, GREATEST_FORCE)) {
            throw new IllegalArgumentException("strain and force are 0 to 1,000,000");
        }
        if (rowCount > 0 && strain <= strains[rowCount - 1]) {
            throw new IllegalArgumentException("the strain must rise");
        }
        if (rowCount >= MOST_ROWS) {
            throw new UnsupportedOperationException("there is room for 40 rows");
        }
        strains[rowCount] = strain;
        forces[rowCount] = force;
        rowCount++;
        return rowCount;
    }

    public void section(int area, int slack) throws IllegalArgumentException {
        if (!isWithin(area, 1, GREATEST_AREA) || !isWithin(slack, 0, GREATEST_STRAIN)) {
            throw new IllegalArgumentException("the area is 1 to 10,000, the slack 0 to 1,000,000");
        }
        this.area = area;
        this.slack = slack;
    }

    public long slope(int from, int to, int part)
            throws IndexOutOfBoundsException, IllegalArgumentException, UnsupportedOperationException {
        refuseNoSuchPart(part);
        if (!isWithin(from, 0, GREATEST_STRAIN) || !isWithin(to, 0, GREATEST_STRAIN) || from >= to) {
            throw new IllegalArgumentException("a span's strains are 0 to 1,000,000 and rise");
        }
        int first = firstRowFrom(from);
        int last = lastRowUpTo(to);
        if (first >= last) {
            throw new UnsupportedOperationException("a slope needs two rows");
        }
        long forceStep = forces[last] - forces[first];
        long strainStep = strains[last] - strains[first];
        if (forceStep > 0) {
            modulusUpper = forceStep;
            modulusLower = strainStep;
        }
        return partInLowestTerms(forceStep, strainStep, part);
    }

    public long offset(int share, int part)
            throws IndexOutOfBoundsException, IllegalStateException, IllegalArgumentException {
        refuseNoSuchPart(part);
        if (modulusUpper == 0) {
            throw new IllegalStateException("there is no modulus");
        }
        if (!isWithin(share, 0, GREATEST_STRAIN)) {
            throw new IllegalArgumentException("a share is 0 to 1,000,000");
        }
        int lineStart = slack + share;
        int meeting = meetingRow(lineStart);
        if (meeting < 1) {
            return part == UPPER ? NONE_MET : 0;
        }
        // The excesses weigh the two forces. They add up to 2 * 10^12 at most, as the line's start
        // falls out of their difference, so the upper number stays below 2 * 10^18: no overflow.
        long excessAhead = excessOverLine(meeting - 1, lineStart);
        long excessHere = excessOverLine(meeting, lineStart);
        long upper = forces[meeting] * excessAhead - forces[meeting - 1] * excessHere;
        return partInLowestTerms(upper, excessAhead - excessHere, part);
    }

    public int peak(int what) throws IndexOutOfBoundsException, IllegalStateException {
        if (!isWithin(what, PEAK_FORCE, PEAK_STRENGTH)) {
            throw new IndexOutOfBoundsException("of a peak there are 0, 1 and 2");
        }
        if (rowCount == 0) {
            throw new IllegalStateException("there are no rows");
        }
        int peakRow = firstRowOfGreatestForce();
        if (what == PEAK_FORCE) {
            return forces[peakRow];
        }
        if (what == PEAK_STRAIN) {
            return strains[peakRow] - slack;
        }
        if (area == 0) {
            throw new IllegalStateException("no area is told");
        }
        return forces[peakRow] * 1_000 / area;
    }

    public long stretch(int before, int after, int part)
            throws IndexOutOfBoundsException, IllegalArgumentException {
        refuseNoSuchPart(part);
        if (!isWithin(before, 1, GREATEST_LENGTH) || !isWithin(after, 1, GREATEST_LENGTH)) {
            throw new IllegalArgumentException("lengths are 1 to 1,000,000");
        }
        return partInLowestTerms(after - before, before, part);
    }

    public int impact(int degrees, int joules) throws IllegalArgumentException, UnsupportedOperationException {
        if (!isWithin(degrees, -GREATEST_DEGREES, GREATEST_DEGREES) || !isWithin(joules, 0, GREATEST_JOULES)) {
            throw new IllegalArgumentException("degrees are -200 to 200, joules 0 to 400");
        }
        if (impactCount >= MOST_IMPACTS) {
            throw new UnsupportedOperationException("there is room for 8 impacts");
        }
        impactCount++;
        degreesSum += degrees;
        joulesSum += joules;
        productsSum += degrees * joules;
        squaresSum += degrees * degrees;
        return impactCount;
    }

    public long fitted(int degrees, int part)
            throws IndexOutOfBoundsException, IllegalStateException, IllegalArgumentException {
        refuseNoSuchPart(part);
        // The slope's lower number is 0 just when all impacts, if any, are of the same degrees.
        long slopeLower = impactCount * squaresSum - degreesSum * degreesSum;
        if (slopeLower <= 0) {
            throw new IllegalStateException("there is no fit");
        }
        if (!isWithin(degrees, -GREATEST_DEGREES, GREATEST_DEGREES)) {
            throw new IllegalArgumentException("degrees are -200 to 200");
        }
        long slopeUpper = impactCount * productsSum - degreesSum * joulesSum;
        long upper = joulesSum * slopeLower + slopeUpper * (impactCount * degrees - degreesSum);
        return partInLowestTerms(upper, impactCount * slopeLower, part);
    }

    public int table(int x, int y) throws IllegalArgumentException, UnsupportedOperationException {
        if (!isWithin(x, 0, GREATEST_TABLE_VALUE) || !isWithin(y, 0, GREATEST_TABLE_VALUE)) {
            throw new IllegalArgumentException("a table's values are 0 to 2,000");
        }
        if (tableCount > 0 && x <= tableXs[tableCount - 1]) {
            throw new IllegalArgumentException("x must rise");
        }
        if (tableCount >= MOST_TABLE_ROWS) {
            throw new UnsupportedOperationException("there is room for 8 table rows");
        }
        tableXs[tableCount] = x;
        tableYs[tableCount] = y;
        tableCount++;
        return tableCount;
    }

    public int convert(int x, int rule)
            throws IndexOutOfBoundsException, IllegalStateException, IllegalArgumentException,
            UnsupportedOperationException {
        refuseNoSuchRule(rule);
        if (tableCount == 0) {
            throw new IllegalStateException("there are no table rows");
        }
        if (!isWithin(x, 0, GREATEST_TABLE_VALUE)) {
            throw new IllegalArgumentException("a table's values are 0 to 2,000");
        }
        if (x < tableXs[0] || x > tableXs[tableCount - 1]) {
            throw new UnsupportedOperationException("the value lies beyond the table");
        }
        int above = firstTableRowFrom(x);
        if (above < 1) {
            return tableYs[0];
        }
        long width = tableXs[above] - tableXs[above - 1];
        long upper = tableYs[above - 1] * width
                + (long) (tableYs[above] - tableYs[above - 1]) * (x - tableXs[above - 1]);
        return (int) roundedByRule(upper, width, rule);
    }

    public long round(long upper, long lower, int rule) throws IndexOutOfBoundsException, IllegalArgumentException {
        refuseNoSuchRule(rule);
        if (lower < 1 || lower > GREATEST_FRACTION_NUMBER) {
            throw new IllegalArgumentException("the lower number is 1 to 1,000,000,000,000");
        }
        if (upper < -GREATEST_FRACTION_NUMBER || upper > GREATEST_FRACTION_NUMBER) {
            throw new IllegalArgumentException("the upper number is at most 1,000,000,000,000 from 0");
        }
        return roundedByRule(upper, lower, rule);
    }

    public boolean machine(int told, int read) throws IllegalArgumentException {
        if (!isWithin(told, 1, GREATEST_FORCE) || !isWithin(read, 1, GREATEST_FORCE)) {
            throw new IllegalArgumentException("a check's forces are 1 to 1,000,000");
        }
        checkFailed = Math.abs(told - read) * 100 > told;
        return checkFailed;
    }

    public int invalid() {
        if (area == 0) {
            return 1;
        }
        if (rowCount < FEWEST_VALID_ROWS) {
            return 2;
        }
        int peakRow = firstRowOfGreatestForce();
        if (peakRow == 0) {
            return 3;
        }
        if (peakRow != rowCount - 1 && !fallsBelowHalfBehind(peakRow)) {
            return 4;
        }
        return checkFailed ? 5 : 0;
    }

    public void clear() {
        rowCount = 0;
        area = 0;
        slack = 0;
        modulusUpper = 0;
        modulusLower = 0;
        checkFailed = false;
    }

    private static boolean isWithin(int number, int least, int greatest) {
        return number >= least && number <= greatest;
    }

    private static void refuseNoSuchPart(int part) {
        if (!isWithin(part, UPPER, LOWER)) {
            throw new IndexOutOfBoundsException("a fraction's parts are 0 and 1");
        }
    }

    private static void refuseNoSuchRule(int rule) {
        if (!isWithin(rule, HALF_UP, DOWN)) {
            throw new IndexOutOfBoundsException("the rules are 0, 1 and 2");
        }
    }

    /** The first row whose strain is not below the given one; the count of rows if there is none. */
    private int firstRowFrom(int strain) {
        for (int row = 0; row < rowCount; row++) {
            if (strains[row] >= strain) {
                return row;
            }
        }
        return rowCount;
    }

    /** The last row whose strain is not above the given one, or NO_ROW. */
    private int lastRowUpTo(int strain) {
        for (int row = rowCount - 1; row >= 0; row--) {
            if (strains[row] <= strain) {
                return row;
            }
        }
        return NO_ROW;
    }

    /** The first row not above the line whose row ahead is above it, or NO_ROW. */
    private int meetingRow(int lineStart) {
        for (int row = 1; row < rowCount; row++) {
            if (excessOverLine(row, lineStart) <= 0 && excessOverLine(row - 1, lineStart) > 0) {
                return row;
            }
        }
        return NO_ROW;
    }

    /** How far a row's force is above the modulus' line, times the modulus' lower number to stay whole. */
    private long excessOverLine(int row, int lineStart) {
        return forces[row] * modulusLower - modulusUpper * (strains[row] - lineStart);
    }

    private int firstRowOfGreatestForce() {
        int greatest = 0;
        for (int row = 1; row < rowCount; row++) {
            if (forces[row] > forces[greatest]) {
                greatest = row;
            }
        }
        return greatest;
    }

    private boolean fallsBelowHalfBehind(int peakRow) {
        for (int row = peakRow + 1; row < rowCount; row++) {
            if (forces[row] * 2 < forces[peakRow]) {
                return true;
            }
        }
        return false;
    }

    /** The first table row whose x is not below the given one, or NO_ROW. */
    private int firstTableRowFrom(int x) {
        for (int row = 0; row < tableCount; row++) {
            if (tableXs[row] >= x) {
                return row;
            }
        }
        return NO_ROW;
    }

    /** Rounds upper over lower, the lower number being above 0. */
    private static long roundedByRule(long upper, long lower, int rule) {
        // Never so for the callers here; the divisor is looked at where it divides all the same.
        if (lower < 1) {
            return upper;
        }
        long down = Math.floorDiv(upper, lower);
        long twiceRest = 2 * (upper - down * lower);
        if (rule == DOWN || twiceRest < lower) {
            return down;
        }
        boolean isHalf = twiceRest == lower;
        boolean isEven = (down & 1) == 0;
        return isHalf && isEven && rule == HALF_TO_EVEN ? down : down + 1;
    }

    /** A part of upper over lower in lowest terms, the lower number being above 0. */
    private static long partInLowestTerms(long upper, long lower, int part) {
        long told = part == UPPER ? upper : lower;
        long divisor = greatestCommonDivisor(Math.abs(upper), lower);
        return divisor > 1 ? told / divisor : told;
    }

    private static long greatestCommonDivisor(long one, long other) {
        long greater = one;
        long lesser = other;
        for (int step = 0; step < MOST_DIVISOR_STEPS && lesser != 0; step++) {
            long rest = greater % lesser;
            greater = lesser;
            lesser = rest;
        }
        return greater;
    }
}
