/** Promise 2: row. */
public final class P02RowTest {
    public static void main(String[] args) {
        Due due = new Due();
        ranges(due);
        rises(due);
        room(due);
        refusedChangesNothing(due);
        due.end();
    }

    private static void ranges(Due due) {
        StrainRows x = new StrainRows();
        due.refuses("row(-1, 0)", Due.RANGE, () -> x.row(-1, 0));
        due.refuses("row(1000001, 0)", Due.RANGE, () -> x.row(1_000_001, 0));
        due.refuses("row(0, -1)", Due.RANGE, () -> x.row(0, -1));
        due.refuses("row(0, 1000001)", Due.RANGE, () -> x.row(0, 1_000_001));
        due.refuses("row(least, 0)", Due.RANGE, () -> x.row(Integer.MIN_VALUE, 0));
        due.refuses("row(0, greatest)", Due.RANGE, () -> x.row(0, Integer.MAX_VALUE));
        due.answers("row(0, 1000000)", 1, () -> x.row(0, 1_000_000));
        due.answers("row(1000000, 0)", 2, () -> x.row(1_000_000, 0));
        due.fraction("slope over both", -1, 1, part -> x.slope(0, 1_000_000, part));
    }

    private static void rises(Due due) {
        StrainRows x = new StrainRows();
        due.answers("row(10, 7)", 1, () -> x.row(10, 7));
        due.refuses("row(10, 8): the same strain", Due.RANGE, () -> x.row(10, 8));
        due.refuses("row(9, 8): a lower strain", Due.RANGE, () -> x.row(9, 8));
        due.answers("row(11, 7): the same force", 2, () -> x.row(11, 7));
        due.answers("row(12, 0): a lower force", 3, () -> x.row(12, 0));
    }

    private static void room(Due due) {
        StrainRows x = new StrainRows();
        for (int i = 1; i <= 40; i++) {
            int strain = i * 10;
            due.answers("row " + i, i, () -> x.row(strain, 5));
        }
        due.refuses("row 41", Due.MEANING, () -> x.row(500, 5));
        due.refuses("row 41 out of range", Due.RANGE, () -> x.row(500, -1));
        due.refuses("row 41 that does not rise", Due.RANGE, () -> x.row(400, 5));
        due.answers("peak after row 41 was refused", 5, () -> x.peak(0));
        x.clear();
        due.answers("row after clear", 1, () -> x.row(0, 5));
    }

    private static void refusedChangesNothing(Due due) {
        StrainRows x = Due.rows(10, 7);
        due.refuses("row(20, 1000001)", Due.RANGE, () -> x.row(20, 1_000_001));
        due.refuses("row(5, 9)", Due.RANGE, () -> x.row(5, 9));
        due.answers("peak(0)", 7, () -> x.peak(0));
        due.answers("row(11, 8): the refused strain 20 does not count", 2, () -> x.row(11, 8));
    }
}
