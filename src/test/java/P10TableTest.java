/** Promise 10: table. */
public final class P10TableTest {
    public static void main(String[] args) {
        Due due = new Due();
        StrainRows x = new StrainRows();
        due.refuses("x -1", Due.RANGE, () -> x.table(-1, 0));
        due.refuses("x 2001", Due.RANGE, () -> x.table(2_001, 0));
        due.refuses("y -1", Due.RANGE, () -> x.table(0, -1));
        due.refuses("y 2001", Due.RANGE, () -> x.table(0, 2_001));
        due.refuses("what is refused makes no table", Due.TURN, () -> x.convert(0, 0));
        due.answers("(0, 2000)", 1, () -> x.table(0, 2_000));
        due.refuses("the same x", Due.RANGE, () -> x.table(0, 5));
        due.answers("(10, 0)", 2, () -> x.table(10, 0));
        due.refuses("a lower x", Due.RANGE, () -> x.table(9, 0));
        due.refuses("y 2001 at a greater x", Due.RANGE, () -> x.table(500, 2_001));
        due.answers("(11, 0): the refused 500 does not count", 3, () -> x.table(11, 0));
        for (int i = 4; i <= 8; i++) {
            int at = i * 10;
            due.answers("table row " + i, i, () -> x.table(at, at));
        }
        due.refuses("table row 9", Due.MEANING, () -> x.table(2_000, 0));
        due.refuses("table row 9 out of range", Due.RANGE, () -> x.table(2_001, 0));
        due.refuses("table row 9 that does not rise", Due.RANGE, () -> x.table(80, 0));
        due.answers("the last row stays", 80, () -> x.convert(80, 0));
        due.refuses("the refused row is not there", Due.MEANING, () -> x.convert(81, 0));

        StrainRows wide = new StrainRows();
        due.answers("(2000, 2000)", 1, () -> wide.table(2_000, 2_000));
        due.answers("its value", 2_000, () -> wide.convert(2_000, 2));
        due.end();
    }
}
