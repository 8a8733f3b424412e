/** Promise 15: clear. */
public final class P15ClearTest {
    public static void main(String[] args) {
        Due due = new Due();
        StrainRows x = Due.rows(0, 0, 10, 100, 20, 120, 30, 110, 40, 20);
        x.section(5, 3);
        x.slope(0, 10, 0);
        x.machine(1, 2);
        x.impact(0, 0);
        x.impact(10, 20);
        x.table(0, 0);
        x.table(10, 30);
        due.answers("invalid() before", 5, x::invalid);

        x.clear();
        due.answers("no area", 1, x::invalid);
        due.refuses("no peak", Due.TURN, () -> x.peak(0));
        due.refuses("no modulus", Due.TURN, () -> x.offset(0, 0));
        due.refuses("no rows to slope", Due.MEANING, () -> x.slope(0, 1_000_000, 0));
        due.fraction("impacts stay", 10, 1, part -> x.fitted(5, part));
        due.answers("the table stays", 15, () -> x.convert(5, 0));
        due.answers("the count of impacts stays", 3, () -> x.impact(0, 0));
        due.answers("the count of table rows stays", 3, () -> x.table(11, 0));

        due.answers("the strain may begin anew", 1, () -> x.row(0, 0));
        Due.addRows(x, 1, 10, 2, 9, 3, 8, 4, 1);
        due.refuses("no modulus with rows", Due.TURN, () -> x.offset(0, 0));
        due.refuses("no area with rows", Due.TURN, () -> x.peak(2));
        due.answers("no slack", 1, () -> x.peak(1));
        x.section(1, 0);
        due.answers("no failed check", 0, x::invalid);

        StrainRows fresh = new StrainRows();
        fresh.clear();
        fresh.clear();
        due.answers("clear of a new object", 1, () -> fresh.row(0, 0));
        due.end();
    }
}
