/** Promise 7: stretch. */
public final class P07StretchTest {
    public static void main(String[] args) {
        Due due = new Due();
        StrainRows x = new StrainRows();
        due.fraction("50 to 60", 1, 5, part -> x.stretch(50, 60, part));
        due.fraction("60 to 50", -1, 6, part -> x.stretch(60, 50, part));
        due.fraction("7 to 7", 0, 1, part -> x.stretch(7, 7, part));
        due.fraction("8 to 22", 7, 4, part -> x.stretch(8, 22, part));
        due.fraction("1 to 1000000", 999_999, 1, part -> x.stretch(1, 1_000_000, part));
        due.fraction("1000000 to 1", -999_999, 1_000_000, part -> x.stretch(1_000_000, 1, part));
        due.refuses("part 2 before range", Due.INDEX, () -> x.stretch(0, 0, 2));
        due.refuses("part -1", Due.INDEX, () -> x.stretch(1, 1, -1));
        due.refuses("before 0", Due.RANGE, () -> x.stretch(0, 1, 0));
        due.refuses("after 0", Due.RANGE, () -> x.stretch(1, 0, 0));
        due.refuses("before -1", Due.RANGE, () -> x.stretch(-1, 1, 1));
        due.refuses("before 1000001", Due.RANGE, () -> x.stretch(1_000_001, 1, 1));
        due.refuses("after 1000001", Due.RANGE, () -> x.stretch(1, 1_000_001, 1));
        due.end();
    }
}
