/** Promise 9: fitted. */
public final class P09FittedTest {
    public static void main(String[] args) {
        Due due = new Due();
        fits(due);
        noFit(due);
        refusals(due);
        due.end();
    }

    private static void fits(Due due) {
        StrainRows two = Due.impacts(-100, 10, 100, 30);
        due.fraction("on the line of two", 20, 1, part -> two.fitted(0, part));
        due.fraction("between", 201, 10, part -> two.fitted(1, part));
        due.fraction("beyond", 0, 1, part -> two.fitted(-200, part));

        StrainRows three = Due.impacts(20, 100, 20, 90, -40, 30);
        due.fraction("three at 0", 220, 3, part -> three.fitted(0, part));
        due.fraction("three at 20", 95, 1, part -> three.fitted(20, part));
        due.fraction("three at -200, below 0", -430, 3, part -> three.fitted(-200, part));
        three.row(0, 0);
        three.clear();
        due.fraction("clear leaves impacts", 95, 1, part -> three.fitted(20, part));

        StrainRows level = Due.impacts(1, 7, 2, 7, 3, 7);
        due.fraction("level", 7, 1, part -> level.fitted(200, part));

        StrainRows falling = Due.impacts(0, 9, 1, 5, 2, 4);
        due.fraction("falling at 0", 17, 2, part -> falling.fitted(0, part));
        due.fraction("falling at 3", 1, 1, part -> falling.fitted(3, part));

        StrainRows great = Due.impacts(-200, 400, 200, 0, -200, 400, 200, 0, -200, 400, 200, 0, -199, 397, 200, 1);
        due.fraction("eight great ones at 200", 19_297, 77_479, part -> great.fitted(200, part));
        due.fraction("eight great ones at -200", 30_952_897, 77_479, part -> great.fitted(-200, part));
    }

    private static void noFit(Due due) {
        StrainRows x = new StrainRows();
        due.refuses("none", Due.TURN, () -> x.fitted(0, 0));
        x.impact(20, 100);
        due.refuses("one", Due.TURN, () -> x.fitted(20, 0));
        x.impact(20, 90);
        x.impact(20, 80);
        due.refuses("all of the same degrees", Due.TURN, () -> x.fitted(20, 1));
        x.impact(21, 80);
        due.fraction("one of other degrees", 90, 1, part -> x.fitted(20, part));
    }

    private static void refusals(Due due) {
        StrainRows none = new StrainRows();
        due.refuses("part before turn", Due.INDEX, () -> none.fitted(0, 2));
        due.refuses("turn before range", Due.TURN, () -> none.fitted(201, 0));
        StrainRows x = Due.impacts(0, 0, 1, 1);
        due.refuses("part before range", Due.INDEX, () -> x.fitted(201, -1));
        due.refuses("degrees 201", Due.RANGE, () -> x.fitted(201, 0));
        due.refuses("degrees -201", Due.RANGE, () -> x.fitted(-201, 1));
        due.fraction("degrees 200", 200, 1, part -> x.fitted(200, part));
        due.fraction("degrees -200", -200, 1, part -> x.fitted(-200, part));
    }
}
