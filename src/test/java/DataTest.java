/** Promises 1 to 6: a new object, set, load, guess, solution, residual. */
public final class DataTest {
    private static final int LARGE = RowTurnSolver.LARGE;
    private static final int NONE = RowTurnSolver.NONE;

    public static void main(String[] args) {
        constants();
        orderIsHeldWithin1And12();
        workersAreHeldWithin1And4();
        newObjectIsEmpty();
        setTakesEntriesUpTo99();
        vectorTakesUpToLarge();
        refusedWhileRunning();
        residualIsThatOfTheLatestSolve();
        productIsClippedAfterEachAddition();
        Check.end();
    }

    private static void constants() {
        Check.due("NONE", RowTurnSolver.NONE, -1);
        Check.due("LARGE", RowTurnSolver.LARGE, 524288);
    }

    private static void orderIsHeldWithin1And12() {
        int[][] asked = {{Integer.MIN_VALUE, 1}, {-1, 1}, {0, 1}, {1, 1}, {2, 2}, {11, 11}, {12, 12},
            {13, 12}, {Integer.MAX_VALUE, 12}};
        for (int[] pair : asked) {
            RowTurnSolver x = new RowTurnSolver(pair[0], 1);
            String of = "order " + pair[0] + ": ";
            int n = pair[1];
            Check.due(of + "bound(1)", x.bound(1), n);
            Check.due(of + "set at the last", x.set(n - 1, n - 1, 7), true);
            Check.due(of + "entry at the last", x.entry(0, n - 1, n - 1), 7);
            Check.due(of + "set row n", x.set(n, 0, 7), false);
            Check.due(of + "set column n", x.set(0, n, 7), false);
            Check.due(of + "load n - 1", x.load(n - 1, 7), true);
            Check.due(of + "load n", x.load(n, 7), false);
            Check.due(of + "guess n - 1", x.guess(n - 1, 7), true);
            Check.due(of + "guess n", x.guess(n, 7), false);
        }
    }

    private static void workersAreHeldWithin1And4() {
        int[][] asked = {{Integer.MIN_VALUE, 1}, {0, 1}, {1, 1}, {2, 2}, {3, 3}, {4, 4}, {5, 4},
            {Integer.MAX_VALUE, 4}};
        for (int[] pair : asked) {
            RowTurnSolver x = new RowTurnSolver(5, pair[0]);
            String of = "workers " + pair[0] + ": ";
            Check.due(of + "bound(w)", x.bound(pair[1]), 5);
            Check.due(of + "bound(w + 1)", x.bound(pair[1] + 1), NONE);
            Check.loadAll(x, 1);
            Check.due(of + "start", x.start(0, 0, 0, 1), true);
            Check.due(of + "left(w - 1)", x.left(pair[1] - 1), 5);
            Check.due(of + "left(w)", x.left(pair[1]), NONE);
        }
    }

    private static void newObjectIsEmpty() {
        RowTurnSolver x = new RowTurnSolver(3, 2);
        Check.levelIs(x, 0, new int[3][3]);
        Check.solutionIs("new", x, 0, 0, 0);
        Check.residualIs("new", x, 0, 0, 0);
        Check.due("new: state()", x.state(), 0);
        Check.due("new: count()", x.count(), 0);
        Check.due("new: recounts()", x.recounts(), 0);
        Check.due("new: history(0)", x.history(0), NONE);
        Check.due("new: levels()", x.levels(), 1);
        Check.due("new: left(0)", x.left(0), NONE);
        Check.due("new: work(0)", x.work(0), NONE);
        Check.due("new: work(1)", x.work(1), NONE);
        Check.due("new: run(5)", x.run(5), 0);
        Check.due("new: cancel()", x.cancel(), false);
        Check.due("new: start", x.start(0, 0, 0, 1), true);
        Check.due("b and x are 0, so the solve ends: state()", x.state(), 2);
        Check.historyIs("new", x, 0);
    }

    private static void setTakesEntriesUpTo99() {
        RowTurnSolver x = new RowTurnSolver(3, 1);
        Check.due("set(0, 1, 99)", x.set(0, 1, 99), true);
        Check.due("set(2, 0, -99)", x.set(2, 0, -99), true);
        Check.due("set(0, 1, 100)", x.set(0, 1, 100), false);
        Check.due("set(0, 1, -100)", x.set(0, 1, -100), false);
        Check.due("set(0, 1, MAX)", x.set(0, 1, Integer.MAX_VALUE), false);
        Check.due("set(0, 1, MIN)", x.set(0, 1, Integer.MIN_VALUE), false);
        Check.due("set(-1, 0, 1)", x.set(-1, 0, 1), false);
        Check.due("set(0, -1, 1)", x.set(0, -1, 1), false);
        Check.due("set(3, 0, 1)", x.set(3, 0, 1), false);
        Check.due("set(0, 3, 1)", x.set(0, 3, 1), false);
        Check.due("set(MIN, MAX, 1)", x.set(Integer.MIN_VALUE, Integer.MAX_VALUE, 1), false);
        Check.levelIs(x, 0, new int[][] {{0, 99, 0}, {0, 0, 0}, {-99, 0, 0}});
        Check.due("set(0, 1, 0)", x.set(0, 1, 0), true);
        Check.levelIs(x, 0, new int[][] {{0, 0, 0}, {0, 0, 0}, {-99, 0, 0}});
    }

    private static void vectorTakesUpToLarge() {
        int[] wrong = {LARGE + 1, -LARGE - 1, Integer.MAX_VALUE, Integer.MIN_VALUE};
        RowTurnSolver x = new RowTurnSolver(3, 1);
        Check.loadAll(x, LARGE, -LARGE, 12);
        Check.guessAll(x, -LARGE, LARGE, -7);
        for (int v : wrong) {
            Check.due("load(2, " + v + ")", x.load(2, v), false);
            Check.due("guess(2, " + v + ")", x.guess(2, v), false);
        }
        int[] outside = {-1, 3, Integer.MAX_VALUE, Integer.MIN_VALUE};
        for (int i : outside) {
            Check.due("load(" + i + ", 1)", x.load(i, 1), false);
            Check.due("guess(" + i + ", 1)", x.guess(i, 1), false);
            Check.due("solution(" + i + ")", x.solution(i), 0);
        }
        Check.solutionIs("guessed", x, -LARGE, LARGE, -7);
        Check.due("start", x.start(0, 0, 0, 1), true);
        Check.residualIs("with A all 0, r is b", x, LARGE, -LARGE, 12);
        for (int i : outside) {
            Check.due("residual(" + i + ")", x.residual(i), 0);
        }
    }

    private static void refusedWhileRunning() {
        RowTurnSolver x = Check.solver(1, new int[][] {{2, 0}, {0, 3}});
        Check.loadAll(x, 100, 90);
        Check.guessAll(x, 1, 2);
        Check.due("start", x.start(0, 0, 0, 5), true);
        Check.due("set under way", x.set(0, 1, 5), false);
        Check.due("load under way", x.load(0, 5), false);
        Check.due("guess under way", x.guess(0, 5), false);
        Check.levelIs(x, 0, new int[][] {{2, 0}, {0, 3}});
        Check.solutionIs("under way", x, 1, 2);
        Check.due("cancel()", x.cancel(), true);
        Check.due("start again", x.start(0, 0, 0, 5), true);
        Check.residualIs("b was kept", x, 98, 84);
        Check.due("cancel()", x.cancel(), true);
        Check.due("set after it", x.set(0, 1, 5), true);
        Check.due("load after it", x.load(0, 5), true);
        Check.due("guess after it", x.guess(0, 5), true);
        Check.levelIs(x, 0, new int[][] {{2, 5}, {0, 3}});
        Check.solutionIs("after it", x, 5, 2);
    }

    private static void residualIsThatOfTheLatestSolve() {
        RowTurnSolver x = Check.solver(1, new int[][] {{2, 0}, {0, 3}});
        Check.loadAll(x, 100, 90);
        Check.residualIs("no solve was started", x, 0, 0);
        Check.due("start", x.start(0, 0, LARGE, 5), true);
        Check.residualIs("ended at once", x, 100, 90);
        Check.loadAll(x, 7, 8);
        Check.guessAll(x, 1, 1);
        Check.due("set", x.set(0, 0, 9), true);
        Check.residualIs("A, b and x changed since", x, 100, 90);
        Check.due("refused start", x.start(0, 0, LARGE, 0), false);
        Check.residualIs("a start was refused since", x, 100, 90);
        Check.due("start", x.start(0, 0, LARGE, 5), true);
        Check.residualIs("started again", x, -2, 5);
    }

    private static void productIsClippedAfterEachAddition() {
        RowTurnSolver x = Check.solver(1, new int[][] {{99, -99}, {-99, 99}});
        Check.guessAll(x, LARGE, LARGE);
        Check.due("start", x.start(0, 0, LARGE, 1), true);
        Check.residualIs("sums clipped on the way", x, LARGE, -LARGE);
        Check.loadAll(x, LARGE, -1);
        Check.due("start", x.start(0, 0, LARGE, 1), true);
        Check.residualIs("the difference clipped", x, LARGE, -LARGE);
        Check.loadAll(x, -5, 9);
        Check.due("start", x.start(0, 0, LARGE, 1), true);
        Check.residualIs("the difference not clipped", x, LARGE - 5, 9 - LARGE);
    }
}
