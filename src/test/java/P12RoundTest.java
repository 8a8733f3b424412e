/** Promise 12: round. */
public final class P12RoundTest {
    private static final long GREATEST = 1_000_000_000_000L;

    public static void main(String[] args) {
        Due due = new Due();
        all(due, 0, 1, 0, 0, 0);
        all(due, 1, 2, 1, 0, 0);
        all(due, 3, 2, 2, 2, 1);
        all(due, 5, 2, 3, 2, 2);
        all(due, -1, 2, 0, 0, -1);
        all(due, -3, 2, -1, -2, -2);
        all(due, -5, 2, -2, -2, -3);
        all(due, 5, 10, 1, 0, 0);
        all(due, 4, 3, 1, 1, 1);
        all(due, 5, 3, 2, 2, 1);
        all(due, -4, 3, -1, -1, -2);
        all(due, -5, 3, -2, -2, -2);
        all(due, -6, 3, -2, -2, -2);
        all(due, GREATEST, 1, GREATEST, GREATEST, GREATEST);
        all(due, -GREATEST, 1, -GREATEST, -GREATEST, -GREATEST);
        all(due, GREATEST, GREATEST, 1, 1, 1);
        all(due, -GREATEST, GREATEST, -1, -1, -1);
        all(due, GREATEST / 2, GREATEST, 1, 0, 0);
        all(due, GREATEST / 2 - 1, GREATEST, 0, 0, 0);
        all(due, GREATEST / 2 + 1, GREATEST, 1, 1, 0);
        all(due, -GREATEST / 2, GREATEST, 0, 0, -1);
        all(due, -GREATEST / 2 - 1, GREATEST, -1, -1, -1);
        refusals(due);
        due.end();
    }

    private static void all(Due due, long upper, long lower, long halfUp, long halfToEven, long down) {
        StrainRows x = new StrainRows();
        due.answers("round(" + upper + ", " + lower + ", 0)", halfUp, () -> x.round(upper, lower, 0));
        due.answers("round(" + upper + ", " + lower + ", 1)", halfToEven, () -> x.round(upper, lower, 1));
        due.answers("round(" + upper + ", " + lower + ", 2)", down, () -> x.round(upper, lower, 2));
    }

    private static void refusals(Due due) {
        StrainRows x = new StrainRows();
        due.refuses("rule 3 before range", Due.INDEX, () -> x.round(1, 0, 3));
        due.refuses("rule -1", Due.INDEX, () -> x.round(1, 1, -1));
        for (int rule = 0; rule <= 2; rule++) {
            int by = rule;
            due.refuses("lower 0", Due.RANGE, () -> x.round(1, 0, by));
            due.refuses("lower -1", Due.RANGE, () -> x.round(1, -1, by));
            due.refuses("lower too great", Due.RANGE, () -> x.round(1, GREATEST + 1, by));
            due.refuses("upper too great", Due.RANGE, () -> x.round(GREATEST + 1, 1, by));
            due.refuses("upper too low", Due.RANGE, () -> x.round(-GREATEST - 1, 1, by));
            due.refuses("least long", Due.RANGE, () -> x.round(Long.MIN_VALUE, Long.MIN_VALUE, by));
            due.refuses("greatest long", Due.RANGE, () -> x.round(Long.MAX_VALUE, Long.MAX_VALUE, by));
        }
    }
}
