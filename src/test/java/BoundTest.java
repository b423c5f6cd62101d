/** Promise 7: bound, and BOUND in the terms. */
public final class BoundTest {
    private static final int NONE = RowTurnSolver.NONE;

    public static void main(String[] args) {
        Check.runAll(BoundTest.class);
    }

    private static void boundsAre(String of, Watched x, int... bounds) {
        for (int k = 0; k < bounds.length; k++) {
            Check.due(of + ": bound(" + k + ")", x.bound(k), bounds[k]);
        }
    }

    /** An object whose row i has filled[i] entries that are not 0. */
    private static Watched filled(int workers, int... filled) {
        int[][] rows = new int[filled.length][filled.length];
        for (int i = 0; i < filled.length; i++) {
            for (int j = 0; j < filled[i]; j++) {
                rows[i][filled.length - 1 - j] = j % 2 == 0 ? -1 : 99;
            }
        }
        return Check.solver(workers, rows);
    }

    static void promise7IsNoneBelow0() {
        for (int workers = 1; workers <= 4; workers++) {
            Watched x = filled(workers, 1, 1, 1);
            Check.due("bound(-1)", x.bound(-1), NONE);
            Check.due("bound(MIN)", x.bound(Check.MIN), NONE);
        }
    }

    static void promise7IsNoneAboveTheNumberOfWorkers() {
        for (int workers = 1; workers <= 4; workers++) {
            Watched x = filled(workers, 1, 1, 1);
            Check.due("bound(w)", x.bound(workers), 3);
            Check.due("bound(w + 1)", x.bound(workers + 1), NONE);
            Check.due("bound(MAX)", x.bound(Check.MAX), NONE);
        }
    }

    static void promise7FirstIs0AlsoWhenTheFirstRowsAreEmpty() {
        boundsAre("0 0 2 2", filled(2, 0, 0, 2, 2), 0, 3, 4);
        boundsAre("0 0 2 by one", filled(1, 0, 0, 2), 0, 3);
    }

    static void promise7LastIsTheOrderAlsoWhenTheLastRowsAreEmpty() {
        boundsAre("2 0 0 0", filled(2, 2, 0, 0, 0), 0, 1, 4);
        boundsAre("4 0 0 0 by four", filled(4, 4, 0, 0, 0), 0, 1, 1, 1, 4);
        boundsAre("2 0 0 by one", filled(1, 2, 0, 0), 0, 3);
    }

    static void promise7WithoutEntriesIs0ForAllButTheLast() {
        boundsAre("empty by one", new Watched(7, 1), 0, 7);
        boundsAre("empty by two", new Watched(7, 2), 0, 0, 7);
        boundsAre("empty by three", new Watched(1, 3), 0, 0, 0, 1);
        boundsAre("empty by four", new Watched(12, 4), 0, 0, 0, 0, 12);
    }

    static void promise7WithoutEntriesAnyMore() {
        Watched x = new Watched(3, 2);
        Check.due("set(2, 2, 1)", x.set(2, 2, 1), true);
        boundsAre("one entry", x, 0, 3, 3);
        Check.due("set(2, 2, 0)", x.set(2, 2, 0), true);
        boundsAre("none", x, 0, 0, 3);
    }

    /** Just as many as its share are enough. */
    static void promise7ExactShareIsEnough() {
        boundsAre("1 1 1 1 by two", filled(2, 1, 1, 1, 1), 0, 2, 4);
        boundsAre("1 1 1 1 by four", filled(4, 1, 1, 1, 1), 0, 1, 2, 3, 4);
        boundsAre("2 1 1 by two", filled(2, 2, 1, 1), 0, 1, 3);
        boundsAre("1 2 3 by two", filled(2, 1, 2, 3), 0, 2, 3);
        boundsAre("all filled, 12 by four", filled(4, 12, 12, 12, 12, 12, 12, 12, 12, 12, 12, 12, 12),
            0, 3, 6, 9, 12);
    }

    static void promise7OneLessThanItsShareIsNotEnough() {
        boundsAre("1 1 3 by two", filled(2, 1, 1, 3), 0, 3, 3);
        boundsAre("2 2 1 by two", filled(2, 2, 2, 1), 0, 2, 3);
        boundsAre("1 1 1 1 1 by three", filled(3, 1, 1, 1, 1, 1), 0, 2, 4, 5);
        boundsAre("all filled, 5 by four", filled(4, 5, 5, 5, 5, 5), 0, 2, 3, 4, 5);
    }

    /** An empty row after an exact share belongs to the next worker. */
    static void promise7IsTheLeastSuch() {
        boundsAre("2 0 0 2 by two", filled(2, 2, 0, 0, 2), 0, 1, 4);
        boundsAre("4 0 0 4 by four", filled(4, 4, 0, 0, 4), 0, 1, 1, 4, 4);
    }

    static void promise7AllInTheLastRow() {
        boundsAre("0 0 0 4", filled(4, 0, 0, 0, 4), 0, 4, 4, 4, 4);
    }

    static void promise7CountsEntriesOfEachSignOnce() {
        Watched x = Check.solver(2, new int[][] {{99, -99, 0}, {0, 0, 1}, {-1, 0, 0}});
        boundsAre("2 1 1", x, 0, 1, 3);
    }

    static void promise7FollowsThePresentA() {
        Watched x = filled(2, 0, 2, 2, 0);
        boundsAre("before", x, 0, 2, 4);
        Check.due("set(3, 0, 1)", x.set(3, 0, 1), true);
        boundsAre("an entry more", x, 0, 3, 4);
        Check.due("set(3, 0, 2)", x.set(3, 0, 2), true);
        boundsAre("another entry in its place", x, 0, 3, 4);
        Check.due("set(3, 0, 0)", x.set(3, 0, 0), true);
        boundsAre("an entry less", x, 0, 2, 4);
        Check.due("set(3, 0, 100)", x.set(3, 0, 100), false);
        boundsAre("a refused set", x, 0, 2, 4);
    }

    /** The workers' rows are those of the A that the solve was started with. */
    static void promise7DividesTheRows() {
        Watched x = filled(4, 4, 0, 0, 4);
        Check.loadAll(x, 1000, 2, 3, 4);
        Check.start(x, 0, 0, 0, 1);
        Check.leftIs("4 0 0 4", x, 1, 0, 3, 0);
        Watched y = filled(3, 1, 1, 1, 1, 1);
        Check.loadAll(y, 1000);
        Check.start(y, 0, 0, 0, 1);
        Check.leftIs("1 1 1 1 1", y, 2, 2, 1);
        Check.due("cancel()", y.cancel(), true);
        Check.due("set(0, 0, 5)", y.set(0, 0, 5), true);
        Check.due("set(0, 1, 5)", y.set(0, 1, 5), true);
        Check.due("set(0, 2, 5)", y.set(0, 2, 5), true);
        Check.start(y, 0, 0, 0, 1);
        Check.leftIs("4 1 1 1 1", y, 1, 2, 2);
    }
}
