/** Promises 1 to 6: a new object, set, load, guess, solution, residual. */
public final class DataTest {
    private static final int LARGE = RowTurnSolver.LARGE;
    private static final int NONE = RowTurnSolver.NONE;
    private static final int MIN = Check.MIN;
    private static final int MAX = Check.MAX;

    public static void main(String[] args) {
        Check.runAll(DataTest.class);
    }

    // Promise 1

    private static void orderCountsAs(int asked, int n) {
        Watched x = new Watched(asked, 1);
        String of = "order " + asked + ": ";
        Check.due(of + "bound(1)", x.bound(1), n);
        Check.due(of + "set at the last", x.set(n - 1, n - 1, 7), true);
        Check.due(of + "entry at the last", x.entry(0, n - 1, n - 1), 7);
        Check.due(of + "set in row n", x.set(n, 0, 7), false);
        Check.due(of + "set in column n", x.set(0, n, 7), false);
        Check.due(of + "load(n - 1)", x.load(n - 1, 7), true);
        Check.due(of + "load(n)", x.load(n, 7), false);
        Check.due(of + "guess(n - 1)", x.guess(n - 1, 7), true);
        Check.due(of + "guess(n)", x.guess(n, 7), false);
        Check.due(of + "solution(n - 1)", x.solution(n - 1), 7);
        Check.due(of + "solution(n)", x.solution(n), 0);
        Check.start(x, 0, 0, 0, 1);
        Check.leftIs(of, x, n);
    }

    static void promise1OrderBelow1CountsAs1() {
        orderCountsAs(0, 1);
        orderCountsAs(-1, 1);
        orderCountsAs(-12, 1);
        orderCountsAs(MIN, 1);
    }

    static void promise1OrderAbove12CountsAs12() {
        orderCountsAs(13, 12);
        orderCountsAs(24, 12);
        orderCountsAs(MAX, 12);
    }

    static void promise1Orders1To12AreTakenAsTheyAre() {
        for (int n = 1; n <= 12; n++) {
            orderCountsAs(n, n);
        }
    }

    private static void workersCountAs(int asked, int w) {
        Watched x = new Watched(5, asked);
        String of = "workers " + asked + ": ";
        Check.due(of + "bound(w)", x.bound(w), 5);
        Check.due(of + "bound(w + 1)", x.bound(w + 1), NONE);
        Check.loadAll(x, 1);
        Check.start(x, 0, 0, 0, 1);
        Check.due(of + "left(w - 1)", x.left(w - 1), 5);
        Check.due(of + "left(w)", x.left(w), NONE);
        Check.due(of + "work(w)", x.work(w), NONE);
        Check.due(of + "work(w - 1)", x.work(w - 1), 4);
    }

    static void promise1WorkersBelow1CountAs1() {
        workersCountAs(0, 1);
        workersCountAs(-1, 1);
        workersCountAs(-4, 1);
        workersCountAs(MIN, 1);
    }

    static void promise1WorkersAbove4CountAs4() {
        workersCountAs(5, 4);
        workersCountAs(8, 4);
        workersCountAs(MAX, 4);
    }

    static void promise1Workers1To4AreTakenAsTheyAre() {
        for (int w = 1; w <= 4; w++) {
            workersCountAs(w, w);
        }
    }

    static void promise1WorkersMayBeMoreThanRows() {
        Watched x = Check.oneRow(0, 5);
        Check.due("one worker: bound(1)", x.bound(1), 1);
        Watched y = new Watched(1, 4);
        Check.due("set(0, 0, 2)", y.set(0, 0, 2), true);
        Check.due("load(0, 6)", y.load(0, 6), true);
        Check.start(y, 0, 0, 0, 9);
        Check.leftIs("four workers for one row", y, 1, 0, 0, 0);
        Check.run(y, 1000, 2);
        Check.solutionIs("four workers for one row", y, 3);
    }

    static void promise1AllEntriesAre0() {
        Check.levelIs(new Watched(3, 2), 0, new int[3][3]);
        Check.levelIs(new Watched(12, 4), 0, new int[12][12]);
    }

    static void promise1AllOfBAndXAre0() {
        Watched x = Check.solver(1, Check.chain(3, 20, -10));
        Check.solutionIs("new", x, 0, 0, 0);
        Check.start(x, 0, 0, 0, 1);
        Check.stateIs("b is A x, so it ends at once", x, 2);
        Check.residualIs("b is A x", x, 0, 0, 0);
    }

    static void promise1NoSolveWasStarted() {
        Watched x = new Watched(3, 2);
        Check.stateIs("new", x, 0);
        Check.due("count()", x.count(), 0);
        Check.due("recounts()", x.recounts(), 0);
        Check.due("history(0)", x.history(0), NONE);
        Check.leftIs("new", x, NONE, NONE);
        Check.residualIs("new", x, 0, 0, 0);
        Check.due("cancel()", x.cancel(), false);
    }

    static void promise1ObjectsDoNotShare() {
        Watched x = new Watched(2, 1);
        Watched y = new Watched(2, 1);
        Check.due("set", x.set(0, 1, 5), true);
        Check.loadAll(x, 9, 9);
        Check.guessAll(x, 1, 1);
        Check.start(x, 0, 0, 0, 9);
        Check.due("entry of the other", y.entry(0, 0, 1), 0);
        Check.solutionIs("of the other", y, 0, 0);
        Check.stateIs("of the other", y, 0);
        Check.due("set of the other", y.set(0, 1, 6), true);
        Check.due("entry of the first", x.entry(0, 0, 1), 5);
    }

    // Promise 2

    private static void setIsRefused(int i, int j, int v) {
        Watched x = Check.solver(1, new int[][] {{1, 2, 3}, {4, 5, 6}, {7, 8, 9}});
        Check.due("set(" + i + ", " + j + ", " + v + ")", x.set(i, j, v), false);
        Check.levelIs(x, 0, new int[][] {{1, 2, 3}, {4, 5, 6}, {7, 8, 9}});
    }

    private static void setIsTaken(int i, int j, int v) {
        Watched x = Check.solver(1, new int[][] {{1, 2, 3}, {4, 5, 6}, {7, 8, 9}});
        int[][] rows = {{1, 2, 3}, {4, 5, 6}, {7, 8, 9}};
        rows[i][j] = v;
        Check.due("set(" + i + ", " + j + ", " + v + ")", x.set(i, j, v), true);
        Check.levelIs(x, 0, rows);
    }

    static void promise2Takes99AndMinus99() {
        setIsTaken(1, 2, 99);
        setIsTaken(1, 2, -99);
        setIsTaken(1, 2, 98);
        setIsTaken(1, 2, -98);
    }

    static void promise2Refuses100() {
        setIsRefused(1, 2, 100);
    }

    static void promise2RefusesMinus100() {
        setIsRefused(1, 2, -100);
    }

    static void promise2RefusesTheLeastAndTheGreatestEntry() {
        setIsRefused(1, 2, MIN);
        setIsRefused(1, 2, MAX);
    }

    static void promise2TakesTheFirstAndTheLastRow() {
        setIsTaken(0, 1, 50);
        setIsTaken(2, 1, 50);
    }

    static void promise2TakesTheFirstAndTheLastColumn() {
        setIsTaken(1, 0, 50);
        setIsTaken(1, 2, 50);
    }

    static void promise2RefusesARowBelow0() {
        setIsRefused(-1, 1, 50);
        setIsRefused(MIN, 1, 50);
    }

    static void promise2RefusesARowAboveTheLast() {
        setIsRefused(3, 1, 50);
        setIsRefused(MAX, 1, 50);
    }

    static void promise2RefusesAColumnBelow0() {
        setIsRefused(1, -1, 50);
        setIsRefused(1, MIN, 50);
    }

    static void promise2RefusesAColumnAboveTheLast() {
        setIsRefused(1, 3, 50);
        setIsRefused(1, MAX, 50);
    }

    static void promise2TakesA0() {
        setIsTaken(1, 1, 0);
    }

    static void promise2RefusesUnderWayInAProduct() {
        Watched x = Scenes.inTheFirstProduct();
        Check.due("set(0, 1, 5)", x.set(0, 1, 5), false);
        Check.due("entry(0, 0, 1)", x.entry(0, 0, 1), -10);
    }

    static void promise2RefusesUnderWayInARecount() {
        Watched x = Scenes.inARecount();
        Check.due("set(0, 1, 5)", x.set(0, 1, 5), false);
        Check.due("entry(0, 0, 1)", x.entry(0, 0, 1), -1);
    }

    static void promise2TakesAfterEachEnd() {
        for (int state = 2; state <= 7; state++) {
            Watched x = Scenes.ended(state);
            Check.due("set after state " + state, x.set(0, 1, 77), true);
            Check.due("entry after state " + state, x.entry(0, 0, 1), 77);
        }
    }

    // Promise 3: b is seen in r, as A is 0.

    private static void bIs(Watched x, int... b) {
        Check.start(x, 0, 0, LARGE, 1);
        Check.residualIs("b", x, b);
    }

    private static void loadIsRefused(int i, int v) {
        Watched x = new Watched(3, 1);
        Check.loadAll(x, 11, 12, 13);
        Check.due("load(" + i + ", " + v + ")", x.load(i, v), false);
        bIs(x, 11, 12, 13);
    }

    private static void loadIsTaken(int i, int v) {
        Watched x = new Watched(3, 1);
        Check.loadAll(x, 11, 12, 13);
        int[] b = {11, 12, 13};
        b[i] = v;
        Check.due("load(" + i + ", " + v + ")", x.load(i, v), true);
        bIs(x, b);
    }

    static void promise3TakesLarge() {
        loadIsTaken(1, LARGE);
        loadIsTaken(1, LARGE - 1);
    }

    static void promise3TakesMinusLarge() {
        loadIsTaken(1, -LARGE);
        loadIsTaken(1, -LARGE + 1);
    }

    static void promise3TakesA0() {
        loadIsTaken(1, 0);
    }

    static void promise3RefusesMoreThanLarge() {
        loadIsRefused(1, LARGE + 1);
        loadIsRefused(1, MAX);
    }

    static void promise3RefusesLessThanMinusLarge() {
        loadIsRefused(1, -LARGE - 1);
        loadIsRefused(1, MIN);
    }

    static void promise3TakesTheFirstAndTheLast() {
        loadIsTaken(0, 50);
        loadIsTaken(2, 50);
    }

    static void promise3RefusesBelowTheFirst() {
        loadIsRefused(-1, 50);
        loadIsRefused(MIN, 50);
    }

    static void promise3RefusesAboveTheLast() {
        loadIsRefused(3, 50);
        loadIsRefused(MAX, 50);
    }

    static void promise3RefusesUnderWay() {
        Watched x = Scenes.inTheFirstProduct();
        Check.due("in a product", x.load(0, 5), false);
        Watched y = Scenes.inARecount();
        Check.due("in a recount", y.load(0, 5), false);
        Check.due("cancel()", y.cancel(), true);
        Check.start(y, 0, 0, LARGE, 1);
        Check.residualIs("b was kept", y, 5, 1, 0);
    }

    static void promise3TakesAfterEachEnd() {
        for (int state = 2; state <= 7; state++) {
            Watched x = Scenes.ended(state);
            Check.due("load after state " + state, x.load(0, 5), true);
        }
    }

    // Promise 4

    private static void guessIsRefused(int i, int v) {
        Watched x = new Watched(3, 1);
        Check.guessAll(x, 11, 12, 13);
        Check.due("guess(" + i + ", " + v + ")", x.guess(i, v), false);
        Check.solutionIs("refused", x, 11, 12, 13);
    }

    private static void guessIsTaken(int i, int v) {
        Watched x = new Watched(3, 1);
        Check.guessAll(x, 11, 12, 13);
        int[] values = {11, 12, 13};
        values[i] = v;
        Check.due("guess(" + i + ", " + v + ")", x.guess(i, v), true);
        Check.solutionIs("taken", x, values);
    }

    static void promise4TakesLarge() {
        guessIsTaken(1, LARGE);
        guessIsTaken(1, LARGE - 1);
    }

    static void promise4TakesMinusLarge() {
        guessIsTaken(1, -LARGE);
        guessIsTaken(1, -LARGE + 1);
    }

    static void promise4TakesA0() {
        guessIsTaken(1, 0);
    }

    static void promise4RefusesMoreThanLarge() {
        guessIsRefused(1, LARGE + 1);
        guessIsRefused(1, MAX);
    }

    static void promise4RefusesLessThanMinusLarge() {
        guessIsRefused(1, -LARGE - 1);
        guessIsRefused(1, MIN);
    }

    static void promise4TakesTheFirstAndTheLast() {
        guessIsTaken(0, 50);
        guessIsTaken(2, 50);
    }

    static void promise4RefusesBelowTheFirst() {
        guessIsRefused(-1, 50);
        guessIsRefused(MIN, 50);
    }

    static void promise4RefusesAboveTheLast() {
        guessIsRefused(3, 50);
        guessIsRefused(MAX, 50);
    }

    static void promise4RefusesUnderWay() {
        Watched x = Scenes.inTheFirstProduct();
        Check.due("in a product", x.guess(0, 5), false);
        Check.solutionIs("in a product", x, 0, 0, 0);
        Watched y = Scenes.inARecount();
        Check.due("in a recount", y.guess(0, 5), false);
        Check.solutionIs("in a recount", y, 1, 1, 0);
    }

    static void promise4TakesAfterEachEnd() {
        for (int state = 2; state <= 7; state++) {
            Watched x = Scenes.ended(state);
            Check.due("guess after state " + state, x.guess(0, 5), true);
            Check.solutionIs("after state " + state, x, 5);
        }
    }

    // Promise 5

    static void promise5FirstAndLast() {
        Watched x = new Watched(12, 1);
        Check.due("guess(0, 3)", x.guess(0, 3), true);
        Check.due("guess(11, -4)", x.guess(11, -4), true);
        Check.due("solution(0)", x.solution(0), 3);
        Check.due("solution(11)", x.solution(11), -4);
    }

    static void promise5IsZeroBelowTheFirst() {
        Watched x = new Watched(3, 1);
        Check.guessAll(x, 7, 7, 7);
        Check.due("solution(-1)", x.solution(-1), 0);
        Check.due("solution(MIN)", x.solution(MIN), 0);
    }

    static void promise5IsZeroAboveTheLast() {
        Watched x = new Watched(3, 1);
        Check.guessAll(x, 7, 7, 7);
        Check.due("solution(3)", x.solution(3), 0);
        Check.due("solution(12)", x.solution(12), 0);
        Check.due("solution(MAX)", x.solution(MAX), 0);
    }

    static void promise5IsThePresentXUnderWay() {
        Watched x = Check.solver(1, new int[][] {{1, 0}, {0, 3}});
        Check.loadAll(x, 100, 100);
        Check.start(x, 0, 0, 0, 9);
        Check.run(x, 1, 1);
        Check.solutionIs("before the last row", x, 0, 0);
        Check.run(x, 1, 1);
        Check.solutionIs("after the last row", x, 50, 50);
    }

    // Promise 6

    static void promise6IsZeroWhenNoSolveWasStarted() {
        Watched x = Check.solver(1, new int[][] {{2, 0}, {0, 3}});
        Check.loadAll(x, 100, 90);
        Check.residualIs("no solve", x, 0, 0);
        Check.due("refused start", x.start(0, 0, 0, 0), false);
        Check.residualIs("no solve, a refused start", x, 0, 0);
    }

    static void promise6FirstAndLast() {
        Watched x = new Watched(12, 1);
        Check.due("load(0, 3)", x.load(0, 3), true);
        Check.due("load(11, -4)", x.load(11, -4), true);
        Check.start(x, 0, 0, 0, 9);
        Check.due("residual(0)", x.residual(0), 3);
        Check.due("residual(11)", x.residual(11), -4);
    }

    static void promise6IsZeroBelowTheFirst() {
        Watched x = new Watched(2, 1);
        Check.loadAll(x, 7, 7);
        Check.start(x, 0, 0, 0, 9);
        Check.due("residual(-1)", x.residual(-1), 0);
        Check.due("residual(MIN)", x.residual(MIN), 0);
    }

    static void promise6IsZeroAboveTheLast() {
        Watched x = new Watched(2, 1);
        Check.loadAll(x, 7, 7);
        Check.start(x, 0, 0, 0, 9);
        Check.due("residual(2)", x.residual(2), 0);
        Check.due("residual(12)", x.residual(12), 0);
        Check.due("residual(MAX)", x.residual(MAX), 0);
    }

    static void promise6StaysWhenTheDataChange() {
        Watched x = Check.solver(1, new int[][] {{2, 0}, {0, 3}});
        Check.loadAll(x, 100, 90);
        Check.start(x, 0, 0, LARGE, 5);
        Check.residualIs("ended at once", x, 100, 90);
        Check.loadAll(x, 7, 8);
        Check.guessAll(x, 1, 1);
        Check.due("set", x.set(0, 0, 9), true);
        Check.residualIs("A, b and x changed since", x, 100, 90);
        Check.start(x, 0, 0, LARGE, 5);
        Check.residualIs("started again", x, -2, 5);
    }

    static void promise6StaysWhenAStartIsRefused() {
        Watched x = Check.solver(1, new int[][] {{2, 0}, {0, 3}});
        Check.loadAll(x, 100, 90);
        Check.start(x, 0, 0, LARGE, 5);
        Check.loadAll(x, 7, 8);
        Check.due("refused start", x.start(0, 0, LARGE, 0), false);
        Check.residualIs("a start was refused", x, 100, 90);
    }

    /** r is b - A x, each row's sum clipped on its way, and clipped once more as a difference. */
    static void promise6ResidualOfAStartIsClipped() {
        int[][] cases = {{LARGE, 0, LARGE}, {LARGE, 1, LARGE - 1}, {LARGE, -1, LARGE},
            {-LARGE, 0, -LARGE}, {-LARGE, -1, -LARGE + 1}, {-LARGE, 1, -LARGE},
            {LARGE, -LARGE, LARGE}, {-LARGE, LARGE, -LARGE}, {1, -LARGE + 1, LARGE},
            {2, -LARGE + 1, LARGE}, {-1, LARGE - 1, -LARGE}, {-2, LARGE - 1, -LARGE}};
        for (int[] c : cases) {
            Watched x = Check.oneRow(1, c[0]);
            Check.guessAll(x, c[1]);
            Check.start(x, 0, 0, LARGE, 1);
            Check.residualIs(c[0] + " - " + c[1], x, c[2]);
            Check.due(c[0] + " - " + c[1] + ": history(0)", x.history(0), Math.abs(c[2]));
        }
    }

    private static void rowTimesX(int[] row, int[] values, int product, int b) {
        Watched x = new Watched(row.length, 1);
        for (int j = 0; j < row.length; j++) {
            Check.due("set", x.set(0, j, row[j]), true);
        }
        Check.guessAll(x, values);
        Check.due("load", x.load(0, b), true);
        Check.start(x, 0, 0, LARGE, 1);
        Check.residualIs("product due is " + product, x, b - product);
    }

    static void promise6ProductIsClippedAtLarge() {
        rowTimesX(new int[] {1, 1}, new int[] {LARGE - 1, 0}, LARGE - 1, LARGE);
        rowTimesX(new int[] {1, 1}, new int[] {LARGE - 1, 1}, LARGE, LARGE);
        rowTimesX(new int[] {1, 1}, new int[] {LARGE, 1}, LARGE, LARGE);
        rowTimesX(new int[] {99, 99}, new int[] {LARGE, LARGE}, LARGE, LARGE);
    }

    static void promise6ProductIsClippedAtMinusLarge() {
        rowTimesX(new int[] {1, 1}, new int[] {-LARGE + 1, 0}, -LARGE + 1, -LARGE);
        rowTimesX(new int[] {1, 1}, new int[] {-LARGE + 1, -1}, -LARGE, -LARGE);
        rowTimesX(new int[] {1, 1}, new int[] {-LARGE, -1}, -LARGE, -LARGE);
        rowTimesX(new int[] {99, 99}, new int[] {-LARGE, -LARGE}, -LARGE, -LARGE);
    }

    static void promise6ProductIsClippedAfterEachAddition() {
        rowTimesX(new int[] {1, 1, -1}, new int[] {LARGE, 1, 1}, LARGE - 1, LARGE);
        rowTimesX(new int[] {-1, -1, 1}, new int[] {LARGE, 1, 1}, -LARGE + 1, -LARGE);
        rowTimesX(new int[] {99, -99}, new int[] {LARGE, LARGE}, -LARGE, 0);
        rowTimesX(new int[] {-99, 99}, new int[] {LARGE, LARGE}, LARGE, 0);
    }

    static void promise6ProductIsAddedFromTheFirstColumnOn() {
        rowTimesX(new int[] {1, 1, -1}, new int[] {LARGE, LARGE, LARGE}, 0, LARGE);
        rowTimesX(new int[] {-1, 1, 1}, new int[] {LARGE, LARGE, LARGE}, LARGE, LARGE);
    }
}
