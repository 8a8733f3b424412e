/** None, one, two, the last that has room and the first that has none: rows, impacts, table rows. */
public final class EdgesOfRoomTest {
    public static void main(String[] args) {
        Due due = new Due();
        noRows(due);
        oneRow(due);
        twoRows(due);
        fortyRows(due);
        theFortiethRowCounts(due);
        theFirstOfFortyCounts(due);
        nothingBehindTheFortieth(due);
        nothingBehindTheLastRow(due);
        noRoomAboveTheGreatestStrain(due);
        roomAfterClear(due);
        noImpacts(due);
        eightImpacts(due);
        noTableRows(due);
        oneTableRow(due);
        eightTableRows(due);
        noRoomAboveTheGreatestX(due);
        roomsAreApart(due);
        theLastCallOfAnObject(due);
        due.end();
    }

    /** Rows of strain 0, 10, .. and force 0, 1, .. */
    private static StrainRows risingRows(int count) {
        StrainRows x = new StrainRows();
        for (int i = 0; i < count; i++) {
            x.row(i * 10, i);
        }
        return x;
    }

    private static StrainRows fullImpacts() {
        return Due.impacts(0, 0, 1, 2, 2, 4, 3, 6, 4, 8, 5, 10, 6, 12, 7, 14);
    }

    private static StrainRows fullTable() {
        return Due.table(10, 0, 20, 10, 30, 30, 40, 60, 50, 100, 60, 150, 70, 210, 80, 280);
    }

    /** "fewer than two rows", "there are no rows", "there are five rows or more". */
    private static void noRows(Due due) {
        StrainRows x = new StrainRows();
        x.section(1, 0);
        due.refuses("slope of no rows", Due.MEANING, () -> x.slope(0, 1_000_000, 0));
        for (int what = 0; what <= 2; what++) {
            int asked = what;
            due.refuses("peak(" + what + ") of no rows", Due.TURN, () -> x.peak(asked));
        }
        due.answers("invalid() of no rows", 2, x::invalid);
    }

    private static void oneRow(Due due) {
        StrainRows x = new StrainRows();
        due.answers("the first row", 1, () -> x.row(10, 3));
        x.section(1, 0);
        due.refuses("slope of one row", Due.MEANING, () -> x.slope(0, 1_000_000, 0));
        due.answers("peak(0) of one row", 3, () -> x.peak(0));
        due.answers("peak(1) of one row", 10, () -> x.peak(1));
        due.answers("peak(2) of one row", 3_000, () -> x.peak(2));
        due.refuses("no modulus of one row", Due.TURN, () -> x.offset(0, 0));
    }

    private static void twoRows(Due due) {
        StrainRows x = Due.rows(10, 3);
        due.answers("the second row", 2, () -> x.row(11, 5));
        due.fraction("slope of two rows", 2, 1, part -> x.slope(0, 1_000_000, part));
        for (int share : new int[] {0, 8, 9, 1_000_000}) {
            due.fraction("the line runs beside the one join", Due.NONE_MET, 0, part -> x.offset(share, part));
        }
    }

    /** "ROWS 0, 1, .. (at most 40)", "meaning: there are 40". */
    private static void fortyRows(Due due) {
        StrainRows x = risingRows(38);
        due.answers("row 39", 39, () -> x.row(380, 38));
        due.answers("row 40", 40, () -> x.row(390, 39));
        due.refuses("row 41", Due.MEANING, () -> x.row(400, 900));
        due.refuses("row 41 once more", Due.MEANING, () -> x.row(1_000_000, 1_000_000));
        due.answers("row 41 is no peak", 39, () -> x.peak(0));
        due.fraction("row 41 is in no span", 1, 10, part -> x.slope(0, 1_000_000, part));
        due.refuses("a span with row 40 alone", Due.MEANING, () -> x.slope(381, 1_000_000, 0));
    }

    private static void theFortiethRowCounts(Due due) {
        StrainRows last = risingRows(40);
        last.section(1, 0);
        due.answers("its force is the peak", 39, () -> last.peak(0));
        due.answers("its strain is the peak's", 390, () -> last.peak(1));
        due.answers("the peak is the last row", 0, last::invalid);
        due.fraction("a span of rows 39 and 40", 1, 10, part -> last.slope(380, 390, part));

        StrainRows fall = risingRows(39);
        fall.section(1, 0);
        fall.row(390, 18);
        due.answers("below a half in row 40 alone", 0, fall::invalid);
        fall.slope(0, 380, 0);
        due.fraction("the line is met at row 40", 758, 21, part -> fall.offset(20, part));

        StrainRows noFall = risingRows(39);
        noFall.section(1, 0);
        noFall.row(390, 19);
        due.answers("a half in row 40", 4, noFall::invalid);
    }

    private static void theFirstOfFortyCounts(Due due) {
        StrainRows x = Due.rows(0, 40);
        for (int i = 1; i < 40; i++) {
            x.row(i, 39 - i);
        }
        x.section(1, 0);
        due.answers("its force is the peak", 40, () -> x.peak(0));
        due.answers("its strain is the peak's", 0, () -> x.peak(1));
        due.answers("the peak is at row 0", 3, x::invalid);
        due.fraction("a span of all", -40, 39, part -> x.slope(0, 39, part));
    }

    private static void nothingBehindTheFortieth(Due due) {
        StrainRows x = risingRows(40);
        due.refuses("a span above 40 rows", Due.MEANING, () -> x.slope(391, 1_000_000, 0));
        x.slope(0, 390, 0);
        due.fraction("40 rows on the line", Due.NONE_MET, 0, part -> x.offset(0, part));
        due.fraction("40 rows above the line", Due.NONE_MET, 0, part -> x.offset(1, part));
    }

    /** Rows that clear has forgotten are not there behind the rows told since. */
    private static void nothingBehindTheLastRow(Due due) {
        StrainRows x = Due.rows(0, 9, 1, 8, 2, 500, 30, 1, 40, 1, 50, 1);
        x.clear();
        Due.addRows(x, 0, 0, 20, 40);
        x.section(1, 0);
        due.refuses("a span of forgotten rows", Due.MEANING, () -> x.slope(21, 1_000_000, 0));
        due.fraction("a span that reaches beyond the last row", 2, 1, part -> x.slope(0, 1_000_000, part));
        due.fraction("no forgotten row meets the line", Due.NONE_MET, 0, part -> x.offset(10, part));
        due.answers("no forgotten row is the peak", 40, () -> x.peak(0));
        due.answers("no forgotten row counts", 2, x::invalid);
        Due.addRows(x, 21, 39, 22, 38, 23, 37);
        due.answers("no forgotten row falls below a half", 4, x::invalid);
    }

    /** "or the strain does not rise": behind the greatest strain none does. */
    private static void noRoomAboveTheGreatestStrain(Due due) {
        StrainRows x = Due.rows(999_999, 1);
        due.answers("row(1000000, 2)", 2, () -> x.row(1_000_000, 2));
        due.refuses("row(1000000, 3)", Due.RANGE, () -> x.row(1_000_000, 3));
        due.refuses("row(1000001, 3)", Due.RANGE, () -> x.row(1_000_001, 3));
        due.answers("the peak stays", 2, () -> x.peak(0));
    }

    private static void roomAfterClear(Due due) {
        StrainRows x = risingRows(40);
        x.clear();
        for (int i = 1; i <= 40; i++) {
            int strain = i;
            due.answers("row " + i + " after clear", i, () -> x.row(strain, 1));
        }
        due.refuses("row 41 after clear", Due.MEANING, () -> x.row(500, 1));
    }

    /** "THE FIT of n of them (two or more, not all of the same degrees)". */
    private static void noImpacts(Due due) {
        StrainRows x = new StrainRows();
        due.refuses("fitted of no impacts", Due.TURN, () -> x.fitted(0, 0));
        due.answers("the first impact", 1, () -> x.impact(0, 4));
        due.refuses("fitted of one impact", Due.TURN, () -> x.fitted(0, 0));
        due.answers("the second impact", 2, () -> x.impact(0, 6));
        due.refuses("fitted of two of degrees 0", Due.TURN, () -> x.fitted(0, 0));

        StrainRows two = Due.impacts(-1, 4, 1, 6);
        due.fraction("fitted of two of other degrees", 5, 1, part -> two.fitted(0, part));

        StrainRows same = new StrainRows();
        for (int i = 1; i <= 8; i++) {
            same.impact(-200, i);
        }
        due.refuses("fitted of eight of the same degrees", Due.TURN, () -> same.fitted(-200, 0));

        StrainRows eighthDiffers = new StrainRows();
        for (int i = 1; i <= 7; i++) {
            eighthDiffers.impact(-200, 7);
        }
        eighthDiffers.impact(-199, 8);
        due.fraction("fitted of eight, the eighth of other degrees", 8, 1, part -> eighthDiffers.fitted(-199, part));
    }

    /** "IMPACTS, at most 8", "meaning: there are 8". */
    private static void eightImpacts(Due due) {
        StrainRows x = Due.impacts(0, 0, 0, 0, 0, 0, 0, 0, 0, 0, 0, 0);
        due.answers("impact 7", 7, () -> x.impact(0, 0));
        due.answers("impact 8", 8, () -> x.impact(8, 8));
        due.refuses("impact 9", Due.MEANING, () -> x.impact(200, 400));
        due.fraction("impact 8 counts, impact 9 does not", 8, 1, part -> x.fitted(8, part));
        due.fraction("at 0 too", 0, 1, part -> x.fitted(0, part));
        x.clear();
        due.refuses("impact 9 after clear", Due.MEANING, () -> x.impact(0, 0));
        StrainRows line = fullImpacts();
        due.fraction("eight on a line", 400, 1, part -> line.fitted(200, part));
    }

    /** "turn: there are no rows". */
    private static void noTableRows(Due due) {
        StrainRows x = Due.rows(0, 0, 10, 10);
        due.refuses("convert of no table rows", Due.TURN, () -> x.convert(0, 0));
        due.refuses("the ends of the values without table rows", Due.TURN, () -> x.convert(2_000, 2));
    }

    /** "below the first one, above the last one there is none". */
    private static void oneTableRow(Due due) {
        StrainRows x = new StrainRows();
        due.answers("the first table row", 1, () -> x.table(7, 9));
        due.answers("at it", 9, () -> x.convert(7, 0));
        due.refuses("below it", Due.MEANING, () -> x.convert(6, 0));
        due.refuses("above it", Due.MEANING, () -> x.convert(8, 0));

        StrainRows lowest = Due.table(0, 9);
        due.answers("at 0", 9, () -> lowest.convert(0, 0));
        due.refuses("above 0", Due.MEANING, () -> lowest.convert(1, 0));
        StrainRows highest = Due.table(2_000, 9);
        due.answers("at 2000", 9, () -> highest.convert(2_000, 0));
        due.refuses("below 2000", Due.MEANING, () -> highest.convert(1_999, 0));
    }

    /** "TABLE ROWS, at most 8", "meaning: there are 8". */
    private static void eightTableRows(Due due) {
        StrainRows x = fullTable();
        due.refuses("table row 9", Due.MEANING, () -> x.table(90, 1_000));
        due.refuses("below the first", Due.MEANING, () -> x.convert(9, 0));
        due.answers("at the first", 0, () -> x.convert(10, 0));
        due.answers("between the first two", 5, () -> x.convert(15, 0));
        due.answers("between the last two", 273, () -> x.convert(79, 0));
        due.answers("at the last", 280, () -> x.convert(80, 0));
        due.refuses("above the last", Due.MEANING, () -> x.convert(81, 0));
        x.clear();
        due.refuses("table row 9 after clear", Due.MEANING, () -> x.table(90, 1_000));

        StrainRows seven = Due.table(0, 0, 1, 1, 2, 2, 3, 3, 4, 4, 5, 5);
        due.answers("table row 7", 7, () -> seven.table(6, 6));
        due.answers("table row 8", 8, () -> seven.table(2_000, 0));
        due.answers("table row 8 counts", 0, () -> seven.convert(2_000, 0));
    }

    /** "or x does not rise": behind the greatest x none does. */
    private static void noRoomAboveTheGreatestX(Due due) {
        StrainRows x = Due.table(1_999, 1);
        due.answers("table(2000, 2)", 2, () -> x.table(2_000, 2));
        due.refuses("table(2000, 3)", Due.RANGE, () -> x.table(2_000, 3));
        due.answers("the last one stays", 2, () -> x.convert(2_000, 0));
    }

    /** Each kind has a room of its own. */
    private static void roomsAreApart(Due due) {
        StrainRows x = risingRows(40);
        for (int i = 1; i <= 8; i++) {
            int at = i;
            due.answers("impact " + i + " beside 40 rows", i, () -> x.impact(at, at));
            due.answers("table row " + i + " beside 40 rows", i, () -> x.table(at, at));
        }
        StrainRows full = fullTable();
        due.answers("a row beside a full table", 1, () -> full.row(5, 5));
        due.answers("an impact beside a full table", 1, () -> full.impact(5, 5));
    }

    /** "An object is used for at most 512 calls": the 512th is still answered as the others are. */
    private static void theLastCallOfAnObject(Due due) {
        StrainRows x = risingRows(40);
        for (int call = 41; call <= 511; call++) {
            x.machine(1, call % 2 + 1);
        }
        due.answers("call 512", 39, () -> x.peak(0));
    }
}
