/** Promise 6: peak. */
public final class P06PeakTest {
    public static void main(String[] args) {
        Due due = new Due();
        StrainRows x = new StrainRows();
        due.refuses("what 3 before turn", Due.INDEX, () -> x.peak(3));
        due.refuses("what -1 before turn", Due.INDEX, () -> x.peak(-1));
        for (int what = 0; what <= 2; what++) {
            int asked = what;
            due.refuses("no rows, what " + what, Due.TURN, () -> x.peak(asked));
        }
        x.section(7, 3);
        due.refuses("an area but no rows", Due.TURN, () -> x.peak(2));
        Due.addRows(x, 2, 5, 10, 80, 20, 100, 30, 100, 40, 99);
        due.answers("force", 100, () -> x.peak(0));
        due.answers("strain of the first of two less slack", 17, () -> x.peak(1));
        due.answers("strength is rounded down", 14_285, () -> x.peak(2));
        x.row(50, 101);
        due.answers("a later greater force", 101, () -> x.peak(0));
        due.answers("its strain less slack", 47, () -> x.peak(1));

        StrainRows noArea = Due.rows(5, 9);
        due.answers("force without area", 9, () -> noArea.peak(0));
        due.answers("strain without area", 5, () -> noArea.peak(1));
        due.refuses("strength without area", Due.TURN, () -> noArea.peak(2));
        due.refuses("what 3 without area", Due.INDEX, () -> noArea.peak(3));
        noArea.section(1, 6);
        due.answers("strain below the slack", -1, () -> noArea.peak(1));

        StrainRows great = Due.rows(0, 1_000_000);
        great.section(1, 0);
        due.answers("the greatest strength", 1_000_000_000, () -> great.peak(2));
        StrainRows nothing = Due.rows(0, 0, 1, 0);
        nothing.section(3, 0);
        due.answers("a peak of 0", 0, () -> nothing.peak(0));
        due.answers("its strain, the first one", 0, () -> nothing.peak(1));
        due.answers("its strength", 0, () -> nothing.peak(2));
        due.end();
    }
}
