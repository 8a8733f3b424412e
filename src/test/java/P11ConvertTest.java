/** Promise 11: convert. */
public final class P11ConvertTest {
    public static void main(String[] args) {
        Due due = new Due();
        values(due);
        rules(due);
        refusals(due);
        due.end();
    }

    private static void all(Due due, StrainRows x, int value, int halfUp, int halfToEven, int down) {
        due.answers("convert(" + value + ", 0)", halfUp, () -> x.convert(value, 0));
        due.answers("convert(" + value + ", 1)", halfToEven, () -> x.convert(value, 1));
        due.answers("convert(" + value + ", 2)", down, () -> x.convert(value, 2));
    }

    private static void values(Due due) {
        StrainRows x = Due.table(10, 100, 20, 300, 40, 0);
        all(due, x, 10, 100, 100, 100);
        all(due, x, 15, 200, 200, 200);
        all(due, x, 20, 300, 300, 300);
        all(due, x, 21, 285, 285, 285);
        all(due, x, 40, 0, 0, 0);
        StrainRows one = Due.table(7, 9);
        all(due, one, 7, 9, 9, 9);
        StrainRows wide = Due.table(0, 0, 2_000, 2_000);
        all(due, wide, 0, 0, 0, 0);
        all(due, wide, 1_999, 1_999, 1_999, 1_999);
        all(due, wide, 2_000, 2_000, 2_000, 2_000);
        wide.clear();
        all(due, wide, 1_000, 1_000, 1_000, 1_000);
    }

    private static void rules(Due due) {
        StrainRows rising = Due.table(0, 100, 4, 101, 8, 102);
        all(due, rising, 1, 100, 100, 100);
        all(due, rising, 2, 101, 100, 100);
        all(due, rising, 3, 101, 101, 100);
        all(due, rising, 6, 102, 102, 101);
        StrainRows falling = Due.table(0, 101, 2, 98, 5, 97);
        all(due, falling, 1, 100, 100, 99);
        all(due, falling, 3, 98, 98, 97);
        all(due, falling, 4, 97, 97, 97);
    }

    private static void refusals(Due due) {
        StrainRows none = new StrainRows();
        due.refuses("rule 3 before turn", Due.INDEX, () -> none.convert(0, 3));
        due.refuses("rule -1 before turn", Due.INDEX, () -> none.convert(0, -1));
        due.refuses("turn before range", Due.TURN, () -> none.convert(2_001, 0));
        none.row(0, 0);
        due.refuses("strain rows are no table", Due.TURN, () -> none.convert(0, 0));
        StrainRows x = Due.table(10, 100, 20, 200);
        due.refuses("rule before range", Due.INDEX, () -> x.convert(2_001, 3));
        due.refuses("rule before meaning", Due.INDEX, () -> x.convert(9, 3));
        due.refuses("value -1", Due.RANGE, () -> x.convert(-1, 0));
        due.refuses("value 2001", Due.RANGE, () -> x.convert(2_001, 0));
        due.refuses("below the first", Due.MEANING, () -> x.convert(9, 0));
        due.refuses("value 0", Due.MEANING, () -> x.convert(0, 1));
        due.refuses("above the last", Due.MEANING, () -> x.convert(21, 0));
        due.refuses("value 2000", Due.MEANING, () -> x.convert(2_000, 2));
    }
}
