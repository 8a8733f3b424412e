/**
 * "Refusals, in this order: index, turn, range, meaning": each call with two or more reasons to be refused at once is
 * refused for the first of them. Every pair of reasons that a call can have stands here.
 */
public final class OrderOfRefusalsTest {
    public static void main(String[] args) {
        Due due = new Due();
        row(due);
        slope(due);
        offset(due);
        peak(due);
        stretch(due);
        impact(due);
        fitted(due);
        table(due);
        convert(due);
        round(due);
        due.end();
    }

    private static void row(Due due) {
        StrainRows full = new StrainRows();
        for (int i = 0; i < 40; i++) {
            full.row(100 + i, 0);
        }
        due.refuses("row: meaning alone", Due.MEANING, () -> full.row(140, 0));
        due.refuses("row: a strain too small, then meaning", Due.RANGE, () -> full.row(-1, 0));
        due.refuses("row: a strain too great, then meaning", Due.RANGE, () -> full.row(1_000_001, 0));
        due.refuses("row: a force too small, then meaning", Due.RANGE, () -> full.row(140, -1));
        due.refuses("row: a force too great, then meaning", Due.RANGE, () -> full.row(140, 1_000_001));
        due.refuses("row: the same strain, then meaning", Due.RANGE, () -> full.row(139, 0));
        due.refuses("row: a lower strain, then meaning", Due.RANGE, () -> full.row(138, 0));
    }

    private static void slope(Due due) {
        StrainRows none = new StrainRows();
        due.refuses("slope: meaning alone", Due.MEANING, () -> none.slope(0, 1, 0));
        due.refuses("slope: from too small, then meaning", Due.RANGE, () -> none.slope(-1, 1, 0));
        due.refuses("slope: to too great, then meaning", Due.RANGE, () -> none.slope(0, 1_000_001, 0));
        due.refuses("slope: no span, then meaning", Due.RANGE, () -> none.slope(1, 1, 1));
        due.refuses("slope: part, then meaning", Due.INDEX, () -> none.slope(0, 1, 2));
        due.refuses("slope: part, then range, then meaning", Due.INDEX, () -> none.slope(1, 1, -1));
        StrainRows x = Due.rows(0, 0, 10, 10);
        due.refuses("slope: part, then from", Due.INDEX, () -> x.slope(-1, 10, 2));
        due.refuses("slope: part, then to", Due.INDEX, () -> x.slope(0, 1_000_001, 2));
        due.refuses("slope: part, then no span", Due.INDEX, () -> x.slope(10, 0, -1));
    }

    private static void offset(Due due) {
        StrainRows x = Due.rows(0, 0, 10, 10);
        due.refuses("offset: turn alone", Due.TURN, () -> x.offset(0, 0));
        due.refuses("offset: turn, then a share too small", Due.TURN, () -> x.offset(-1, 0));
        due.refuses("offset: turn, then a share too great", Due.TURN, () -> x.offset(1_000_001, 1));
        due.refuses("offset: part, then turn", Due.INDEX, () -> x.offset(0, 2));
        due.refuses("offset: part, then turn, then range", Due.INDEX, () -> x.offset(-1, -1));
        x.slope(0, 10, 0);
        due.refuses("offset: part, then range", Due.INDEX, () -> x.offset(1_000_001, 2));
    }

    private static void peak(Due due) {
        StrainRows x = new StrainRows();
        due.refuses("peak: what, then no rows", Due.INDEX, () -> x.peak(3));
        due.refuses("peak: what below 0, then no rows", Due.INDEX, () -> x.peak(-1));
        x.row(0, 0);
        due.refuses("peak: no area", Due.TURN, () -> x.peak(2));
        due.refuses("peak: what, then no area", Due.INDEX, () -> x.peak(3));
    }

    private static void stretch(Due due) {
        StrainRows x = new StrainRows();
        due.refuses("stretch: part, then before", Due.INDEX, () -> x.stretch(0, 1, 2));
        due.refuses("stretch: part, then after", Due.INDEX, () -> x.stretch(1, 1_000_001, -1));
    }

    private static void impact(Due due) {
        StrainRows full = Due.impacts(0, 0, 0, 0, 0, 0, 0, 0, 0, 0, 0, 0, 0, 0, 0, 0);
        due.refuses("impact: meaning alone", Due.MEANING, () -> full.impact(0, 0));
        due.refuses("impact: degrees too small, then meaning", Due.RANGE, () -> full.impact(-201, 0));
        due.refuses("impact: degrees too great, then meaning", Due.RANGE, () -> full.impact(201, 0));
        due.refuses("impact: joules too small, then meaning", Due.RANGE, () -> full.impact(0, -1));
        due.refuses("impact: joules too great, then meaning", Due.RANGE, () -> full.impact(0, 401));
    }

    private static void fitted(Due due) {
        StrainRows none = new StrainRows();
        due.refuses("fitted: turn alone", Due.TURN, () -> none.fitted(0, 0));
        due.refuses("fitted: turn, then degrees too small", Due.TURN, () -> none.fitted(-201, 0));
        due.refuses("fitted: turn, then degrees too great", Due.TURN, () -> none.fitted(201, 1));
        due.refuses("fitted: part, then turn", Due.INDEX, () -> none.fitted(0, 2));
        due.refuses("fitted: part, then turn, then range", Due.INDEX, () -> none.fitted(201, -1));
        StrainRows same = Due.impacts(5, 1, 5, 2);
        due.refuses("fitted: the same degrees, then range", Due.TURN, () -> same.fitted(201, 0));
        due.refuses("fitted: part, then the same degrees", Due.INDEX, () -> same.fitted(0, 2));
        StrainRows x = Due.impacts(5, 1, 6, 2);
        due.refuses("fitted: part, then range", Due.INDEX, () -> x.fitted(-201, 2));
    }

    private static void table(Due due) {
        StrainRows full = Due.table(10, 0, 11, 0, 12, 0, 13, 0, 14, 0, 15, 0, 16, 0, 17, 0);
        due.refuses("table: meaning alone", Due.MEANING, () -> full.table(18, 0));
        due.refuses("table: x too small, then meaning", Due.RANGE, () -> full.table(-1, 0));
        due.refuses("table: x too great, then meaning", Due.RANGE, () -> full.table(2_001, 0));
        due.refuses("table: y too small, then meaning", Due.RANGE, () -> full.table(18, -1));
        due.refuses("table: y too great, then meaning", Due.RANGE, () -> full.table(18, 2_001));
        due.refuses("table: the same x, then meaning", Due.RANGE, () -> full.table(17, 0));
        due.refuses("table: a lower x, then meaning", Due.RANGE, () -> full.table(16, 0));
    }

    private static void convert(Due due) {
        StrainRows none = new StrainRows();
        due.refuses("convert: turn alone", Due.TURN, () -> none.convert(0, 0));
        due.refuses("convert: turn, then a value too small", Due.TURN, () -> none.convert(-1, 1));
        due.refuses("convert: turn, then a value too great", Due.TURN, () -> none.convert(2_001, 2));
        due.refuses("convert: rule, then turn", Due.INDEX, () -> none.convert(0, 3));
        due.refuses("convert: rule, then turn, then range", Due.INDEX, () -> none.convert(-1, -1));
        StrainRows x = Due.table(10, 0, 20, 0);
        due.refuses("convert: meaning alone", Due.MEANING, () -> x.convert(9, 0));
        due.refuses("convert: a value too small, below the table too", Due.RANGE, () -> x.convert(-1, 0));
        due.refuses("convert: a value too great, above the table too", Due.RANGE, () -> x.convert(2_001, 0));
        due.refuses("convert: rule, then range", Due.INDEX, () -> x.convert(2_001, 3));
        due.refuses("convert: rule, then below the table", Due.INDEX, () -> x.convert(9, -1));
        due.refuses("convert: rule, then above the table", Due.INDEX, () -> x.convert(21, 3));
    }

    private static void round(Due due) {
        StrainRows x = new StrainRows();
        due.refuses("round: rule, then lower", Due.INDEX, () -> x.round(1, 0, 3));
        due.refuses("round: rule, then upper", Due.INDEX, () -> x.round(1_000_000_000_001L, 1, -1));
        due.refuses("round: lower and upper", Due.RANGE, () -> x.round(1_000_000_000_001L, 0, 0));
    }
}
