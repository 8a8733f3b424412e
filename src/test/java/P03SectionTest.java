/** Promise 3: section. */
public final class P03SectionTest {
    public static void main(String[] args) {
        Due due = new Due();
        StrainRows x = Due.rows(100, 50);
        due.refuses("section(0, 0)", Due.RANGE, () -> x.section(0, 0));
        due.refuses("section(-1, 0)", Due.RANGE, () -> x.section(-1, 0));
        due.refuses("section(10001, 0)", Due.RANGE, () -> x.section(10_001, 0));
        due.refuses("section(1, -1)", Due.RANGE, () -> x.section(1, -1));
        due.refuses("section(1, 1000001)", Due.RANGE, () -> x.section(1, 1_000_001));
        due.refuses("peak(2): no refused area is kept", Due.TURN, () -> x.peak(2));
        due.answers("peak(1): no refused slack is kept", 100, () -> x.peak(1));
        due.answers("invalid(): no refused area is told", 1, x::invalid);

        x.section(1, 1_000_000);
        due.answers("peak(2) by area 1", 50_000, () -> x.peak(2));
        due.answers("peak(1) by slack 1000000", -999_900, () -> x.peak(1));
        due.answers("invalid() with an area", 2, x::invalid);

        x.section(10_000, 0);
        due.answers("peak(2) by area 10000", 5, () -> x.peak(2));
        due.answers("peak(1) by slack 0", 100, () -> x.peak(1));

        due.refuses("section(7, -1)", Due.RANGE, () -> x.section(7, -1));
        due.refuses("section(0, 7)", Due.RANGE, () -> x.section(0, 7));
        due.answers("peak(2) after a refusal", 5, () -> x.peak(2));
        due.answers("peak(1) after a refusal", 100, () -> x.peak(1));
        due.end();
    }
}
