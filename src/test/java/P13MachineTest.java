/** Promise 13: machine. */
public final class P13MachineTest {
    public static void main(String[] args) {
        Due due = new Due();
        StrainRows x = Due.rows(0, 0, 1, 10, 2, 9, 3, 8, 4, 1);
        x.section(1, 0);
        passes(due, x, 100, 100);
        passes(due, x, 100, 101);
        passes(due, x, 100, 99);
        fails(due, x, 100, 102);
        fails(due, x, 100, 98);
        fails(due, x, 99, 100);
        fails(due, x, 99, 98);
        passes(due, x, 1, 1);
        fails(due, x, 1, 2);
        fails(due, x, 1, 1_000_000);
        fails(due, x, 1_000_000, 1);
        passes(due, x, 1_000_000, 990_000);
        fails(due, x, 1_000_000, 989_999);
        passes(due, x, 199, 200);
        fails(due, x, 199, 201);

        refused(due, x);
        due.answers("a refused check leaves the failed one", 5, x::invalid);
        passes(due, x, 100, 100);
        refused(due, x);
        due.answers("a refused check leaves the good one", 0, x::invalid);
        due.end();
    }

    private static void passes(Due due, StrainRows x, int told, int read) {
        due.holds("machine(" + told + ", " + read + ") has not failed", !x.machine(told, read));
        due.answers("invalid() after it", 0, x::invalid);
    }

    private static void fails(Due due, StrainRows x, int told, int read) {
        due.holds("machine(" + told + ", " + read + ") has failed", x.machine(told, read));
        due.answers("invalid() after it", 5, x::invalid);
    }

    private static void refused(Due due, StrainRows x) {
        due.refuses("told 0", Due.RANGE, () -> x.machine(0, 1));
        due.refuses("read 0", Due.RANGE, () -> x.machine(1, 0));
        due.refuses("told -1", Due.RANGE, () -> x.machine(-1, 1));
        due.refuses("read -1", Due.RANGE, () -> x.machine(1, -1));
        due.refuses("told 1000001", Due.RANGE, () -> x.machine(1_000_001, 1_000_000));
        due.refuses("read 1000001", Due.RANGE, () -> x.machine(1_000_000, 1_000_001));
        due.refuses("least", Due.RANGE, () -> x.machine(Integer.MIN_VALUE, Integer.MAX_VALUE));
    }
}
