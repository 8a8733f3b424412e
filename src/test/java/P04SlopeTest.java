/** Promise 4: slope. */
public final class P04SlopeTest {
    public static void main(String[] args) {
        Due due = new Due();
        spans(due);
        lowestTerms(due);
        refusals(due);
        modulusIsKept(due);
        due.end();
    }

    private static void spans(Due due) {
        StrainRows x = Due.rows(10, 100, 20, 250, 30, 270, 40, 200);
        due.fraction("all rows", 10, 3, part -> x.slope(0, 1_000_000, part));
        due.fraction("the ends are in the span", 15, 1, part -> x.slope(10, 20, part));
        due.fraction("only rows in the span", 2, 1, part -> x.slope(11, 39, part));
        due.fraction("a row at the upper end", -5, 2, part -> x.slope(11, 40, part));
        due.fraction("a falling slope", -7, 1, part -> x.slope(30, 40, part));
        x.section(1, 15);
        due.fraction("the slack does not move the span", 15, 1, part -> x.slope(10, 20, part));
    }

    private static void lowestTerms(Due due) {
        StrainRows x = Due.rows(0, 6, 4, 12, 1_000_000, 6);
        due.fraction("6 over 4", 3, 2, part -> x.slope(0, 4, part));
        due.fraction("level", 0, 1, part -> x.slope(0, 1_000_000, part));
        due.fraction("-6 over 999996", -1, 166_666, part -> x.slope(4, 1_000_000, part));
    }

    private static void refusals(Due due) {
        StrainRows x = Due.rows(10, 100, 20, 250);
        due.refuses("part 2 before range", Due.INDEX, () -> x.slope(5, 5, 2));
        due.refuses("part -1", Due.INDEX, () -> x.slope(0, 100, -1));
        due.refuses("from below 0", Due.RANGE, () -> x.slope(-1, 100, 0));
        due.refuses("to above 1000000", Due.RANGE, () -> x.slope(0, 1_000_001, 0));
        due.refuses("to below 0", Due.RANGE, () -> x.slope(0, -5, 0));
        due.refuses("from above 1000000", Due.RANGE, () -> x.slope(1_000_001, 1_000_002, 0));
        due.refuses("from is to", Due.RANGE, () -> x.slope(15, 15, 0));
        due.refuses("from above to", Due.RANGE, () -> x.slope(20, 10, 0));
        due.refuses("one row, the first", Due.MEANING, () -> x.slope(0, 19, 0));
        due.refuses("one row, the last", Due.MEANING, () -> x.slope(11, 20, 0));
        due.refuses("no row between two", Due.MEANING, () -> x.slope(11, 19, 0));
        due.refuses("no row below the first", Due.MEANING, () -> x.slope(0, 9, 0));
        due.refuses("no row above the last", Due.MEANING, () -> x.slope(21, 1_000_000, 0));
        due.refuses("no refused slope is kept", Due.TURN, () -> x.offset(0, 0));
        StrainRows none = new StrainRows();
        due.refuses("range before meaning", Due.RANGE, () -> none.slope(5, 4, 0));
        due.refuses("part before meaning", Due.INDEX, () -> none.slope(0, 9, 3));
    }

    private static void modulusIsKept(Due due) {
        StrainRows x = Due.rows(0, 0, 10, 100, 20, 100, 30, 90);
        due.fraction("a level slope", 0, 1, part -> x.slope(10, 20, part));
        due.fraction("a falling slope", -1, 1, part -> x.slope(20, 30, part));
        due.refuses("neither is kept", Due.TURN, () -> x.offset(0, 0));
        due.answers("part 1 alone keeps it too", 1, () -> x.slope(0, 10, 1));
        due.fraction("10 over 1 is kept", 100, 1, part -> x.offset(5, part));
        x.slope(10, 20, 0);
        x.slope(20, 30, 0);
        due.refuses("a slope of one row", Due.MEANING, () -> x.slope(0, 9, 0));
        due.fraction("it stays kept", 100, 1, part -> x.offset(5, part));
        x.slope(0, 20, 0);
        due.fraction("a later one above 0 is kept instead", 275, 3, part -> x.offset(10, part));
    }
}
