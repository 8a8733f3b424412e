/** Promise 1: a new object has no rows, no area, no impacts, no table, no check. */
public final class P01NewObjectTest {
    public static void main(String[] args) {
        Due due = new Due();
        StrainRows x = new StrainRows();
        due.answers("invalid()", 1, x::invalid);
        due.refuses("peak(0) without rows", Due.TURN, () -> x.peak(0));
        due.refuses("offset(0, 0) without modulus", Due.TURN, () -> x.offset(0, 0));
        due.refuses("fitted(0, 0) without impacts", Due.TURN, () -> x.fitted(0, 0));
        due.refuses("convert(0, 0) without table", Due.TURN, () -> x.convert(0, 0));
        due.refuses("slope(0, 1000000, 0) without rows", Due.MEANING, () -> x.slope(0, 1_000_000, 0));

        due.answers("first row", 1, () -> x.row(0, 0));
        due.answers("first impact", 1, () -> x.impact(0, 0));
        due.answers("first table row", 1, () -> x.table(0, 0));
        due.refuses("peak(2) without area", Due.TURN, () -> x.peak(2));
        due.answers("peak(1): slack is 0 at first", 0, () -> x.peak(1));

        StrainRows other = new StrainRows();
        due.answers("first row of another object", 1, () -> other.row(0, 5));
        due.answers("peak of the first object", 0, () -> x.peak(0));

        StrainRows valid = Due.rows(0, 0, 1, 10, 2, 9, 3, 8, 4, 1);
        valid.section(1, 0);
        due.answers("invalid(): no check has not failed", 0, valid::invalid);
        due.end();
    }
}
