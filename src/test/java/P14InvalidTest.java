/** Promise 14: invalid. */
public final class P14InvalidTest {
    public static void main(String[] args) {
        Due due = new Due();
        firstBrokenRule(due);
        rowCount(due);
        peakAtRowZero(due);
        behindThePeak(due);
        peakInTheLastRow(due);
        due.end();
    }

    private static StrainRows told(int... strainsAndForces) {
        StrainRows made = Due.rows(strainsAndForces);
        made.section(1, 0);
        return made;
    }

    /** All five rules are broken at first, then mended one by one. */
    private static void firstBrokenRule(Due due) {
        StrainRows x = Due.rows(0, 10, 1, 9, 2, 8, 3, 7);
        x.machine(1, 2);
        due.answers("no area", 1, x::invalid);
        x.section(1, 0);
        due.answers("four rows", 2, x::invalid);
        x.row(4, 10);
        due.answers("the peak at row 0", 3, x::invalid);
        x.row(5, 12);
        x.row(6, 6);
        due.answers("no fall behind the peak", 4, x::invalid);
        x.row(7, 5);
        due.answers("a failed check", 5, x::invalid);
        x.machine(1, 1);
        due.answers("valid", 0, x::invalid);
    }

    private static void rowCount(Due due) {
        StrainRows x = told();
        due.answers("no rows", 2, x::invalid);
        Due.addRows(x, 0, 0, 1, 1, 2, 2, 3, 3);
        due.answers("four rows", 2, x::invalid);
        x.row(4, 4);
        due.answers("five rows", 0, x::invalid);
    }

    private static void peakAtRowZero(Due due) {
        due.answers("the peak at row 0 again later", 3, told(0, 9, 1, 8, 2, 7, 3, 6, 4, 9)::invalid);
        due.answers("all forces 0", 3, told(0, 0, 1, 0, 2, 0, 3, 0, 4, 0)::invalid);
        due.answers("the peak at row 1", 0, told(0, 0, 1, 9, 2, 1, 3, 1, 4, 1)::invalid);
    }

    private static void behindThePeak(Due due) {
        due.answers("the peak is the last row", 0, told(0, 5, 1, 5, 2, 5, 3, 5, 4, 6)::invalid);
        due.answers("a half is not below a half", 4, told(0, 0, 1, 10, 2, 8, 3, 7, 4, 5)::invalid);
        due.answers("below a half", 0, told(0, 0, 1, 10, 2, 8, 3, 7, 4, 4)::invalid);
        due.answers("just below a half of an odd peak", 0, told(0, 0, 1, 11, 2, 8, 3, 7, 4, 5)::invalid);
        due.answers("just above a half of an odd peak", 4, told(0, 0, 1, 11, 2, 8, 3, 7, 4, 6)::invalid);
        due.answers("some force behind, not the last", 0, told(0, 0, 1, 10, 2, 4, 3, 7, 4, 9)::invalid);
        due.answers("a low force ahead of the peak", 4, told(0, 0, 1, 1, 2, 1, 3, 10, 4, 9)::invalid);
        due.answers("the same peak in the last row is not the peak", 4,
                told(0, 0, 1, 10, 2, 8, 3, 7, 4, 10)::invalid);
        due.answers("a failing fall right behind the first of two peaks", 0,
                told(0, 0, 1, 10, 2, 1, 3, 10, 4, 10)::invalid);
        due.answers("0 is below a half of 1", 0, told(0, 0, 1, 1, 2, 1, 3, 1, 4, 0)::invalid);
        due.answers("1 is not below a half of 1", 4, told(0, 0, 1, 1, 2, 1, 3, 1, 4, 1)::invalid);
        due.answers("1 is not below a half of 2", 4, told(0, 0, 1, 2, 2, 1, 3, 1, 4, 1)::invalid);
        due.answers("the peak in the row ahead of the last", 4, told(0, 0, 1, 1, 2, 1, 3, 9, 4, 5)::invalid);
        due.answers("great forces", 0, told(0, 0, 1, 1_000_000, 2, 8, 3, 7, 4, 499_999)::invalid);
        due.answers("great forces, a half", 4,
                told(0, 0, 1, 1_000_000, 2, 800_000, 3, 700_000, 4, 500_000)::invalid);
    }

    /** A peak in the last row keeps rule 4, and the rules behind it still count. */
    private static void peakInTheLastRow(Due due) {
        StrainRows x = told(0, 0, 1, 1, 2, 2, 3, 3, 4, 9);
        due.answers("no check", 0, x::invalid);
        x.machine(99, 100);
        due.answers("a failed check", 5, x::invalid);
        x.row(5, 9);
        due.answers("the same force behind it: the peak is no more in the last row", 4, x::invalid);
        x.row(6, 10);
        due.answers("a greater one behind it: the last row again", 5, x::invalid);
        x.machine(100, 101);
        due.answers("a check just within", 0, x::invalid);
    }
}
