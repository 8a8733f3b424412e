/** Promise 5: offset. */
public final class P05OffsetTest {
    public static void main(String[] args) {
        Due due = new Due();
        meets(due);
        firstMeetingCounts(due);
        barelyAbove(due);
        slackMovesTheLine(due);
        greatNumbers(due);
        refusals(due);
        due.end();
    }

    private static void none(Due due, String what, StrainRows x, int share) {
        due.fraction(what, Due.NONE_MET, 0, part -> x.offset(share, part));
    }

    private static void meets(Due due) {
        StrainRows x = Due.rows(0, 0, 10, 100, 20, 150, 40, 160);
        x.slope(0, 10, 0);
        none(due, "the rows follow the line, then fall: no row ahead is above", x, 0);
        due.fraction("inside a join", 110, 1, part -> x.offset(1, part));
        due.fraction("at a row on the line", 150, 1, part -> x.offset(5, part));
        due.fraction("a fraction", 2900, 19, part -> x.offset(10, part));
        due.fraction("at the last row", 160, 1, part -> x.offset(24, part));
        none(due, "the last row is above the line", x, 25);
        none(due, "the greatest share", x, 1_000_000);

        StrainRows zero = Due.rows(0, 5, 10, 0, 20, 20);
        zero.slope(10, 20, 0);
        due.fraction("met at force 0", 0, 1, part -> zero.offset(10, part));
    }

    private static void firstMeetingCounts(Due due) {
        StrainRows twice = Due.rows(0, 10, 10, 0, 20, 100, 30, 1);
        twice.slope(10, 30, 0);
        due.fraction("the first of two meetings", 10, 21, part -> twice.offset(0, part));

        StrainRows fromBelow = Due.rows(0, 0, 10, 100, 20, 50);
        fromBelow.slope(0, 20, 0);
        due.fraction("on the line, above, then met", 50, 1, part -> fromBelow.offset(0, part));

        StrainRows below = Due.rows(0, 0, 10, 10, 20, 200);
        below.slope(0, 20, 0);
        none(due, "going above the line is no meeting", below, 0);

        StrainRows later = Due.rows(0, 0, 10, 100, 20, 150);
        later.slope(0, 10, 0);
        none(due, "not met yet", later, 20);
        later.row(40, 160);
        due.fraction("rows that came after the modulus count", 3000, 19, part -> later.offset(20, part));
    }

    private static void barelyAbove(Due due) {
        StrainRows x = Due.rows(0, 0, 3, 1);
        x.slope(0, 3, 0);
        none(due, "a third above the line is not met", x, 1);
        x.row(4, 0);
        due.fraction("a third above the line is above", 3, 4, part -> x.offset(1, part));
    }

    private static void slackMovesTheLine(Due due) {
        StrainRows x = Due.rows(0, 0, 10, 100, 20, 150, 40, 160);
        x.slope(0, 10, 0);
        x.section(1, 4);
        due.fraction("slack 4 and share 1", 150, 1, part -> x.offset(1, part));
        due.fraction("slack 4 and share 6", 2900, 19, part -> x.offset(6, part));
        x.section(1, 5);
        due.fraction("slack 5 and share 0", 150, 1, part -> x.offset(0, part));
        x.section(1, 1_000_000);
        none(due, "the greatest slack and share", x, 1_000_000);
    }

    private static void greatNumbers(Due due) {
        StrainRows deep = Due.rows(0, 0, 1, 1_000_000, 999_999, 0, 1_000_000, 999_999);
        deep.slope(0, 1_000_000, 0);
        due.fraction("a deep fall", 499_999_000_000_500_000L, 999_998_500_001L, part -> deep.offset(0, part));
        due.fraction("a deep fall, later", 249_999_250_000_500_000L, 999_998_500_001L,
                part -> deep.offset(500_000, part));
        due.fraction("at force 0", 0, 1, part -> deep.offset(999_999, part));
        none(due, "behind the fall", deep, 1_000_000);

        StrainRows late = Due.rows(0, 1, 1, 1_000_000, 999_999, 999_983, 1_000_000, 0);
        late.slope(0, 999_999, 0);
        due.fraction("a late fall", 999_965_000_306_000_000L, 999_982_999_999L, part -> late.offset(0, part));
        due.fraction("a late fall, one on", 999_964_000_340_999_694L, 999_982_999_999L, part -> late.offset(1, part));
    }

    private static void refusals(Due due) {
        StrainRows x = Due.rows(0, 0, 10, 100, 20, 100);
        due.refuses("part before turn", Due.INDEX, () -> x.offset(0, 2));
        due.refuses("part -1", Due.INDEX, () -> x.offset(0, -1));
        due.refuses("turn before range", Due.TURN, () -> x.offset(-1, 0));
        x.slope(0, 10, 0);
        due.refuses("part before range", Due.INDEX, () -> x.offset(-1, 2));
        due.refuses("share -1", Due.RANGE, () -> x.offset(-1, 0));
        due.refuses("share 1000001", Due.RANGE, () -> x.offset(1_000_001, 0));
        due.refuses("share 1000001, part 1", Due.RANGE, () -> x.offset(1_000_001, 1));
        due.refuses("greatest share", Due.RANGE, () -> x.offset(Integer.MAX_VALUE, 0));
        due.fraction("after the refusals", 100, 1, part -> x.offset(5, part));
    }
}
