/** Promise 8: impact. */
public final class P08ImpactTest {
    public static void main(String[] args) {
        Due due = new Due();
        StrainRows x = new StrainRows();
        due.refuses("degrees -201", Due.RANGE, () -> x.impact(-201, 0));
        due.refuses("degrees 201", Due.RANGE, () -> x.impact(201, 0));
        due.refuses("joules -1", Due.RANGE, () -> x.impact(0, -1));
        due.refuses("joules 401", Due.RANGE, () -> x.impact(0, 401));
        due.answers("(-200, 0)", 1, () -> x.impact(-200, 0));
        due.refuses("joules 401 at other degrees", Due.RANGE, () -> x.impact(5, 401));
        due.refuses("what is refused makes no fit", Due.TURN, () -> x.fitted(0, 0));
        due.answers("(200, 400)", 2, () -> x.impact(200, 400));
        due.fraction("fitted at 0", 200, 1, part -> x.fitted(0, part));
        due.answers("the same once more", 3, () -> x.impact(200, 400));
        for (int i = 4; i <= 8; i++) {
            due.answers("impact " + i, i, () -> x.impact(200, 400));
        }
        due.refuses("impact 9", Due.MEANING, () -> x.impact(0, 0));
        due.refuses("impact 9 out of range", Due.RANGE, () -> x.impact(0, 401));
        due.fraction("the refused one is not fitted", 200, 1, part -> x.fitted(0, part));
        due.end();
    }
}
