/** Promises 11 to 19, on solves that are short enough to be reckoned by hand. */
public final class SolveTest {
    private static final int LARGE = RowTurnSolver.LARGE;
    private static final int NONE = RowTurnSolver.NONE;

    public static void main(String[] args) {
        startLooksAtItsFourNumbers();
        startWhileOneIsUnderWay();
        startThatEndsAtOnce();
        startForgetsTheSolveBefore();
        convergesAfterRecount();
        everyMethodAndKindSolvesOneRow();
        directionFollowsTheOneBefore();
        directionIsNewAfterRecount();
        leastResidualMethod();
        preparingBySweeps();
        preparingByCycle();
        zeroOnTheDiagonal();
        workAnswersWhatIsLeft();
        workersWithoutRows();
        runTakesTheLowestWorker();
        runHoldsItsRows();
        cancelInAProduct();
        cancelInARecount();
        limitEnds();
        longestSolve();
        brokenEnds();
        divergedEnds();
        divergedByRecount();
        stalledEnds();
        dotIsHeld();
        Check.end();
    }

    private static RowTurnSolver oneRow(int a, int b) {
        RowTurnSolver x = Check.solver(1, new int[][] {{a}});
        Check.loadAll(x, b);
        return x;
    }

    private static void startLooksAtItsFourNumbers() {
        RowTurnSolver x = oneRow(2, 10);
        int[][] wrong = {{-1, 0, 0, 1}, {3, 0, 0, 1}, {0, -1, 0, 1}, {0, 4, 0, 1}, {0, 0, -1, 1},
            {0, 0, LARGE + 1, 1}, {0, 0, 0, 0}, {0, 0, 0, 41}, {0, 0, 0, -1},
            {Integer.MAX_VALUE, 0, 0, 1}, {Integer.MIN_VALUE, 0, 0, 1},
            {0, Integer.MAX_VALUE, 0, 1}, {0, Integer.MIN_VALUE, 0, 1},
            {0, 0, Integer.MAX_VALUE, 1}, {0, 0, Integer.MIN_VALUE, 1},
            {0, 0, 0, Integer.MAX_VALUE}, {0, 0, 0, Integer.MIN_VALUE}};
        for (int[] s : wrong) {
            Check.due("wrong start", x.start(s[0], s[1], s[2], s[3]), false);
            Check.due("wrong start: state()", x.state(), 0);
            Check.due("wrong start: history(0)", x.history(0), NONE);
        }
        int[][] right = {{0, 0, 0, 1}, {1, 1, 0, 40}, {2, 2, LARGE, 1}, {2, 3, LARGE, 40}};
        for (int[] s : right) {
            Check.due("right start", x.start(s[0], s[1], s[2], s[3]), true);
            x.cancel();
        }
        x = oneRow(2, 10);
        x.start(0, 0, 0, 5);
        x.run(1000);
        for (int[] s : wrong) {
            Check.due("wrong start after a solve", x.start(s[0], s[1], s[2], s[3]), false);
        }
        Check.due("the solve before stays: state()", x.state(), 2);
        Check.due("the solve before stays: recounts()", x.recounts(), 1);
        Check.historyIs("the solve before stays", x, 10, 0);
    }

    private static void startWhileOneIsUnderWay() {
        RowTurnSolver x = Check.solver(2, new int[][] {{1, 0}, {0, 3}});
        Check.loadAll(x, 100, 100);
        Check.due("start", x.start(0, 0, 0, 2), true);
        Check.due("run(3)", x.run(3), 3);
        Check.due("start under way", x.start(0, 0, LARGE, 1), false);
        Check.due("state()", x.state(), 1);
        Check.due("left(0)", x.left(0), 0);
        Check.due("left(1)", x.left(1), 1);
        Check.historyIs("under way", x, 100, 50);
    }

    private static void startThatEndsAtOnce() {
        RowTurnSolver x = oneRow(2, 10);
        Check.guessAll(x, 2);
        Check.due("start at its tolerance", x.start(1, 3, 6, 40), true);
        Check.due("state()", x.state(), 2);
        Check.historyIs("ended at once", x, 6);
        Check.due("left(0)", x.left(0), NONE);
        Check.due("work(0)", x.work(0), NONE);
        Check.due("run(1)", x.run(1), 0);
        Check.due("recounts()", x.recounts(), 0);
        Check.due("cancel()", x.cancel(), false);
        Check.due("state()", x.state(), 2);
        Check.due("start above its tolerance", x.start(1, 3, 5, 40), true);
        Check.due("state()", x.state(), 1);
    }

    private static void startForgetsTheSolveBefore() {
        RowTurnSolver x = oneRow(2, 10);
        x.start(0, 0, 0, 5);
        x.run(1000);
        Check.historyIs("first", x, 10, 0);
        Check.due("first: recounts()", x.recounts(), 1);
        Check.guessAll(x, -1);
        Check.due("second start", x.start(0, 0, 0, 5), true);
        Check.historyIs("second", x, 12);
        Check.due("second: recounts()", x.recounts(), 0);
        Check.due("second: left(0)", x.left(0), 1);
    }

    private static void convergesAfterRecount() {
        RowTurnSolver x = oneRow(2, 10);
        Check.due("start", x.start(0, 0, 0, 1), true);
        Check.due("work(0)", x.work(0), 0);
        Check.due("in the recount: state()", x.state(), 1);
        Check.due("in the recount: recounts()", x.recounts(), 0);
        Check.due("in the recount: left(0)", x.left(0), 1);
        Check.historyIs("in the recount", x, 10, 0);
        Check.due("work(0)", x.work(0), 0);
        Check.due("the recount is before the limit: state()", x.state(), 2);
        Check.due("recounts()", x.recounts(), 1);
        Check.solutionIs("converged", x, 5);
        Check.residualIs("converged", x, 0);
        Check.due("work(0) after it", x.work(0), NONE);
        Check.due("left(0) after it", x.left(0), NONE);
    }

    private static void everyMethodAndKindSolvesOneRow() {
        for (int method = 0; method <= 2; method++) {
            for (int kind = 0; kind <= 3; kind++) {
                RowTurnSolver x = oneRow(2, 10);
                String of = "method " + method + ", kind " + kind;
                Check.due(of + ": start", x.start(method, kind, 0, 9), true);
                Check.due(of + ": run(1000)", x.run(1000), 2);
                Check.due(of + ": state()", x.state(), 2);
                Check.solutionIs(of, x, 5);
                Check.historyIs(of, x, 10, 0);
            }
        }
    }

    /**
     * A = diag(1, 3), b = (100, 100): r = p = (100, 100), q = (100, 300), N/D = 20000/40000, so
     * x = (50, 50), r = (50, -50). Method 1 then has p = r + 5000/20000 of p = (75, -25),
     * q = (75, -75), N/D = 5000/7500, x = (50 + 50, 50 - 16), r = (0, 0).
     * Method 0 has p = (50, -50), q = (50, -150), N/D = 5000/10000, x = (75, 25), r = (25, 25).
     */
    private static void directionFollowsTheOneBefore() {
        for (int method = 0; method <= 1; method++) {
            RowTurnSolver x = Check.solver(1, new int[][] {{1, 0}, {0, 3}});
            Check.loadAll(x, 100, 100);
            x.start(method, 0, 0, 9);
            Check.due("run(2)", x.run(2), 2);
            Check.solutionIs("first step", x, 50, 50);
            Check.residualIs("first step", x, 50, -50);
            Check.due("run(2)", x.run(2), 2);
            if (method == 0) {
                Check.solutionIs("method 0", x, 75, 25);
                Check.residualIs("method 0", x, 25, 25);
                Check.historyIs("method 0", x, 100, 50, 25);
            } else {
                Check.solutionIs("method 1", x, 100, 34);
                Check.residualIs("method 1", x, 0, 0);
                Check.historyIs("method 1", x, 100, 50, 0);
            }
        }
    }

    /**
     * A = (5 -1; -1 8), b = (9, 8), tolerance 3: p = (9, 8), q = (37, 55), N/D = 145/773, x = (1, 1),
     * r = (9 - 6, 8 - 10), within the tolerance; the recount finds r = (5, 1). A new direction is
     * p = (5, 1), q = (24, 3), N/D = 26/123, x = (2, 1), r = (0, 1), by recount (0, 2). One that
     * follows would be (6, 2), and x would stay.
     */
    private static void directionIsNewAfterRecount() {
        RowTurnSolver x = Check.solver(1, new int[][] {{5, -1}, {-1, 8}});
        Check.loadAll(x, 9, 8);
        x.start(1, 0, 3, 9);
        Check.due("run(2)", x.run(2), 2);
        Check.residualIs("before the recount", x, 3, -2);
        Check.historyIs("before the recount", x, 9, 3);
        Check.due("run(1)", x.run(1), 1);
        Check.residualIs("half of the recount", x, 3, -2);
        Check.historyIs("half of the recount", x, 9, 3);
        Check.due("half of the recount: recounts()", x.recounts(), 0);
        Check.due("run(1)", x.run(1), 1);
        Check.residualIs("recounted", x, 5, 1);
        Check.historyIs("recounted", x, 9, 5);
        Check.due("recounted: recounts()", x.recounts(), 1);
        Check.due("recounted: state()", x.state(), 1);
        Check.due("run(2)", x.run(2), 2);
        Check.solutionIs("after the recount", x, 2, 1);
        Check.residualIs("after the recount", x, 0, 1);
        Check.due("run(9)", x.run(9), 2);
        Check.due("state()", x.state(), 2);
        Check.due("recounts()", x.recounts(), 2);
        Check.residualIs("converged", x, 0, 2);
        Check.historyIs("converged", x, 9, 5, 2);
    }

    /** r = p = (100, 100), q = (100, 300): N = 40000, D = 100000. */
    private static void leastResidualMethod() {
        RowTurnSolver x = Check.solver(1, new int[][] {{1, 0}, {0, 3}});
        Check.loadAll(x, 100, 100);
        x.start(2, 0, 0, 9);
        Check.due("run(2)", x.run(2), 2);
        Check.solutionIs("method 2", x, 40, 40);
        Check.residualIs("method 2", x, 60, -20);
        Check.historyIs("method 2", x, 100, 60);
    }

    /**
     * A = (2 1; 1 4), b = (10, 20), f = (160, 320). UP: z = (80, (320 - 80)/4 = 60); DOWN: z_1
     * stays 60, z_0 = (160 - 60)/2 = 50. p = (50, 60): q = (160, 290), N = R = 1700,
     * D = 8000 + 17400 = 25400: x = (3, 4), r = (10 - 10, 20 - 19).
     */
    private static void preparingBySweeps() {
        RowTurnSolver x = Check.solver(1, new int[][] {{2, 1}, {1, 4}});
        Check.loadAll(x, 10, 20);
        x.start(0, 2, 0, 9);
        Check.due("run(2)", x.run(2), 2);
        Check.solutionIs("kind 2", x, 3, 4);
        Check.residualIs("kind 2", x, 0, 1);
    }

    /**
     * One level: sweeps UP, DOWN, UP, DOWN. A as above: z = (50, 60), then z_0 = (160 - 60)/2 = 50,
     * z_1 = (320 - 50)/4 = 67, then z_1 = 67, z_0 = (160 - 67)/2 = 46. p = (46, 67):
     * q = (159, 314), R = 1800, D = 7314 + 21038 = 28352: x = (2, 4), r = (10 - 10, 20 - 19).
     *
     * Two levels: rows (4 -4 0), (-4 9 0), (0 0 3), b = (3, 5, 1), f = (48, 80, 16). UP: z = (12,
     * (80 + 48)/9 = 14, 5). 1 leans on 0 and 0 on 1, so group 0 = {0, 1} and 2 is in none. The
     * level below is (5), g = (48 - 48 + 56) + (80 + 48 - 126) = 58, e = 11. z = (23, 25, 5).
     * DOWN: z_2 = 5, z_1 = (80 + 92)/9 = 19, z_0 = (48 + 76)/4 = 31. p = (31, 19, 5): q = (48, 47, 15),
     * R = 93 + 95 + 5 = 193, D = 1488 + 893 + 75 = 2456: x = (2, 1, 0), r = (3 - 3, 5 - 3, 1 - 1).
     */
    private static void preparingByCycle() {
        RowTurnSolver x = Check.solver(1, new int[][] {{2, 1}, {1, 4}});
        Check.loadAll(x, 10, 20);
        x.start(0, 3, 0, 9);
        Check.due("run(2)", x.run(2), 2);
        Check.solutionIs("kind 3, one level", x, 2, 4);
        Check.residualIs("kind 3, one level", x, 0, 1);
        RowTurnSolver y = Check.solver(1, new int[][] {{4, -4, 0}, {-4, 9, 0}, {0, 0, 3}});
        Check.loadAll(y, 3, 5, 1);
        y.start(0, 3, 0, 9);
        Check.due("levels()", y.levels(), 2);
        Check.groupsAre(y, 0, 0, 0, NONE);
        Check.due("run(3)", y.run(3), 3);
        Check.solutionIs("kind 3, two levels", y, 2, 1, 0);
        Check.residualIs("kind 3, two levels", y, 0, 2, 0);
    }

    /**
     * A = (0 1; 1 0), b = (4, 6). Kinds 0 and 1: z = r, q = (6, 4), R = 52, D = 48, x = (4, 6),
     * r = (4 - 6, 6 - 4). Kinds 2 and 3: z stays 0, so N is 0.
     */
    private static void zeroOnTheDiagonal() {
        for (int kind = 0; kind <= 3; kind++) {
            RowTurnSolver x = Check.solver(1, new int[][] {{0, 1}, {1, 0}});
            Check.loadAll(x, 4, 6);
            x.start(0, kind, 0, 9);
            Check.due("run(2)", x.run(2), 2);
            Check.due("kind " + kind + ": state()", x.state(), kind < 2 ? 1 : 4);
            if (kind < 2) {
                Check.solutionIs("kind " + kind, x, 4, 6);
                Check.residualIs("kind " + kind, x, -2, 2);
            } else {
                Check.solutionIs("kind " + kind, x, 0, 0);
                Check.residualIs("kind " + kind, x, 4, 6);
            }
        }
    }

    private static void workAnswersWhatIsLeft() {
        RowTurnSolver x = Check.solver(2, Check.chain(4, 20, -10));
        Check.loadAll(x, 1000, 2000, -500, 700);
        Check.due("work(0) before a start", x.work(0), NONE);
        x.start(1, 0, 9, 20);
        Check.due("work(-1)", x.work(-1), NONE);
        Check.due("work(2)", x.work(2), NONE);
        Check.due("work(MAX)", x.work(Integer.MAX_VALUE), NONE);
        Check.due("work(MIN)", x.work(Integer.MIN_VALUE), NONE);
        Check.due("left(-1)", x.left(-1), NONE);
        Check.due("left(2)", x.left(2), NONE);
        Check.due("left(MAX)", x.left(Integer.MAX_VALUE), NONE);
        Check.due("left(MIN)", x.left(Integer.MIN_VALUE), NONE);
        Check.due("left(0)", x.left(0), 2);
        Check.due("left(1)", x.left(1), 2);
        Check.due("work(1)", x.work(1), 1);
        Check.due("left(1)", x.left(1), 1);
        Check.due("work(1)", x.work(1), 0);
        Check.due("left(1)", x.left(1), 0);
        Check.due("work(1) without a row", x.work(1), NONE);
        Check.due("left(1)", x.left(1), 0);
        Check.due("left(0)", x.left(0), 2);
        Check.due("work(0)", x.work(0), 1);
        Check.due("count()", x.count(), 0);
        Check.due("work(0), the last of all", x.work(0), 0);
        Check.due("count()", x.count(), 1);
        Check.due("history(1)", x.history(1), 1586);
        Check.due("the next product: left(0)", x.left(0), 2);
        Check.due("the next product: left(1)", x.left(1), 2);
    }

    private static void workersWithoutRows() {
        RowTurnSolver x = new RowTurnSolver(3, 4);
        Check.loadAll(x, 1, 2, 3);
        x.start(0, 0, 0, 1);
        for (int k = 0; k < 3; k++) {
            Check.due("left(" + k + ")", x.left(k), 0);
            Check.due("work(" + k + ")", x.work(k), NONE);
        }
        Check.due("left(3)", x.left(3), 3);
        Check.due("work(3)", x.work(3), 2);
        Check.due("run(1)", x.run(1), 1);
        Check.due("left(3)", x.left(3), 1);
        Check.due("work(3)", x.work(3), 0);
        Check.due("A is 0, so it broke: state()", x.state(), 4);
        Check.due("left(3)", x.left(3), NONE);
    }

    private static void runTakesTheLowestWorker() {
        RowTurnSolver x = Check.solver(3, new int[][] {{1, 0, 0}, {0, 2, 0}, {0, 0, 3}});
        Check.loadAll(x, 1000, 2000, 300);
        x.start(0, 0, 0, 9);
        Check.due("work(1)", x.work(1), 0);
        Check.due("run(1)", x.run(1), 1);
        Check.due("left(0)", x.left(0), 0);
        Check.due("left(1)", x.left(1), 0);
        Check.due("left(2)", x.left(2), 1);
        Check.due("run(2), into the next product", x.run(2), 2);
        Check.due("count()", x.count(), 1);
        Check.due("left(0)", x.left(0), 0);
        Check.due("left(1)", x.left(1), 1);
        Check.due("left(2)", x.left(2), 1);
    }

    private static void runHoldsItsRows() {
        RowTurnSolver x = Check.solver(2, new int[][] {{1, 0}, {0, 3}});
        Check.loadAll(x, 100, 100);
        Check.due("run before a start", x.run(5), 0);
        x.start(0, 0, 0, 9);
        Check.due("run(0)", x.run(0), 0);
        Check.due("run(-1)", x.run(-1), 0);
        Check.due("run(MIN)", x.run(Integer.MIN_VALUE), 0);
        Check.due("left(0)", x.left(0), 1);
        Check.due("run(1)", x.run(1), 1);
        Check.due("left(0)", x.left(0), 0);
        runEndsWithTheSolve();
    }

    /** No solve has more than 40 * 2 * 12 rows, so from 1000 on all numbers of rows are alike. */
    private static void runEndsWithTheSolve() {
        RowTurnSolver x = oneRow(99, 1);
        x.start(0, 0, 0, 40);
        Check.due("run(MAX)", x.run(Integer.MAX_VALUE), 10);
        Check.due("state()", x.state(), 6);
        x.start(0, 0, 0, 40);
        Check.due("run(1001)", x.run(1001), 10);
        x.start(0, 0, 0, 40);
        Check.due("run(10)", x.run(10), 10);
        Check.due("state()", x.state(), 6);
    }

    private static void cancelInAProduct() {
        RowTurnSolver x = Check.solver(1, new int[][] {{1, 0}, {0, 3}});
        Check.loadAll(x, 100, 100);
        Check.due("cancel() before a start", x.cancel(), false);
        Check.due("state()", x.state(), 0);
        x.start(0, 0, 0, 9);
        x.run(3);
        Check.due("cancel()", x.cancel(), true);
        Check.due("state()", x.state(), 7);
        Check.solutionIs("cancelled", x, 50, 50);
        Check.residualIs("cancelled", x, 50, -50);
        Check.historyIs("cancelled", x, 100, 50);
        Check.due("cancel() again", x.cancel(), false);
        Check.due("state()", x.state(), 7);
        Check.due("left(0)", x.left(0), NONE);
        Check.due("work(0)", x.work(0), NONE);
        Check.due("run(4)", x.run(4), 0);
        Check.due("start after it", x.start(0, 0, 0, 9), true);
        Check.due("left(0)", x.left(0), 2);
        Check.historyIs("started after it", x, 50);
    }

    private static void cancelInARecount() {
        RowTurnSolver x = Check.solver(1, new int[][] {{1, 0}, {0, 3}});
        Check.loadAll(x, 100, 100);
        x.start(1, 0, 0, 9);
        x.run(5);
        Check.due("cancel()", x.cancel(), true);
        Check.due("recounts()", x.recounts(), 0);
        Check.solutionIs("cancelled", x, 100, 34);
        Check.residualIs("cancelled", x, 0, 0);
        Check.historyIs("cancelled", x, 100, 50, 0);
        Check.due("start after it", x.start(1, 0, 0, 9), true);
        Check.historyIs("started after it", x, 2);
        Check.due("run(2) is an iteration", x.run(2), 2);
        Check.due("count()", x.count(), 1);
    }

    private static void limitEnds() {
        RowTurnSolver x = Check.solver(1, new int[][] {{1, 0}, {0, 3}});
        Check.loadAll(x, 100, 100);
        x.start(0, 0, 0, 2);
        Check.due("run(1000)", x.run(1000), 4);
        Check.due("state()", x.state(), 3);
        Check.historyIs("limit", x, 100, 50, 25);
        x.start(0, 0, 0, 1);
        Check.due("run(1000)", x.run(1000), 2);
        Check.due("state()", x.state(), 3);
    }

    /** Steepest descent at its slowest: r goes down by about 19/21 an iteration, 40 times. */
    private static void longestSolve() {
        RowTurnSolver x = Check.solver(1, new int[][] {{1, 0}, {0, 20}});
        Check.loadAll(x, 20000, 20000);
        Check.due("start", x.start(0, 0, 0, 40), true);
        Check.due("run(1000)", x.run(1000), 80);
        Check.due("state()", x.state(), 3);
        Check.due("count()", x.count(), 40);
        for (int k = 1; k <= 40; k++) {
            long former = x.history(k - 1);
            boolean asDue = Math.abs(x.history(k) - former * 19 / 21) <= former / 100;
            Check.due("history(" + k + ") is about 19/21 of the one before", asDue, true);
        }
        Check.due("history(41)", x.history(41), NONE);
    }

    private static void brokenEnds() {
        RowTurnSolver x = Check.solver(1, new int[][] {{-3}});
        Check.loadAll(x, 5);
        Check.guessAll(x, 1);
        for (int kind = 0; kind <= 3; kind++) {
            x.start(0, kind, 0, 9);
            Check.due("D below 0: run(1000)", x.run(1000), 1);
            Check.due("D below 0: state()", x.state(), 4);
            Check.solutionIs("D below 0", x, 1);
            Check.residualIs("D below 0", x, 8);
            Check.historyIs("D below 0", x, 8);
            Check.due("D below 0: recounts()", x.recounts(), 0);
        }
        RowTurnSolver y = Check.solver(1, new int[][] {{0, 1}, {-1, 0}});
        Check.loadAll(y, 5, 5);
        y.start(2, 0, 0, 9);
        Check.due("N is 0: run(1000)", y.run(1000), 2);
        Check.due("N is 0: state()", y.state(), 4);
        y.start(1, 0, 0, 9);
        Check.due("D is 0: run(1000)", y.run(1000), 2);
        Check.due("D is 0: state()", y.state(), 4);
        RowTurnSolver z = oneRow(-3, 6);
        z.start(2, 0, 0, 9);
        Check.due("method 2 takes N below 0: run(1000)", z.run(1000), 2);
        Check.due("method 2 takes N below 0: state()", z.state(), 2);
        Check.solutionIs("method 2 takes N below 0", z, -2);
    }

    /** A = (1 v; -v 1), b = (1, 0): r = p = (1, 0), q = (1, -v), N = D = 1, r = (0, v). */
    private static void divergedEnds() {
        for (int v = 16; v <= 17; v++) {
            RowTurnSolver x = Check.solver(1, new int[][] {{1, v}, {-v, 1}});
            Check.loadAll(x, 1, 0);
            x.start(0, 0, 0, 1);
            Check.due("run(1000)", x.run(1000), 2);
            Check.due(v + " times history 0: state()", x.state(), v == 16 ? 3 : 5);
            Check.historyIs(v + " times history 0", x, 1, v);
            Check.residualIs(v + " times history 0", x, 0, v);
            Check.solutionIs(v + " times history 0", x, 1, 0);
        }
    }

    /**
     * A = (2 0; 37 -74), b = (2, 0), method 2, kind 3: z = p = (16, 8), q = (32, 0), N/D = 64/1024,
     * x = (1, 0), r = (0, 0); the recount finds r = (0, -37), more than 16 times 2.
     */
    private static void divergedByRecount() {
        RowTurnSolver x = Check.solver(1, new int[][] {{2, 0}, {37, -74}});
        Check.loadAll(x, 2, 0);
        x.start(2, 3, 1, 9);
        Check.due("run(1000)", x.run(1000), 4);
        Check.due("found by a recount: state()", x.state(), 5);
        Check.due("recounts()", x.recounts(), 1);
        Check.historyIs("found by a recount", x, 2, 37);
        Check.residualIs("found by a recount", x, 0, -37);
    }

    /** a = 99, b = 1: the step of x is 1/99, dropped, so every recount finds r = 1 again. */
    private static void stalledEnds() {
        RowTurnSolver x = oneRow(99, 1);
        x.start(0, 0, 0, 5);
        Check.due("run(1000)", x.run(1000), 10);
        Check.due("before the limit: state()", x.state(), 6);
        Check.due("recounts()", x.recounts(), 5);
        Check.historyIs("stalled", x, 1, 1, 1, 1, 1, 1);
        x.start(0, 0, 0, 4);
        Check.due("run(1000)", x.run(1000), 8);
        Check.due("too early to stall: state()", x.state(), 3);
        Check.due("recounts()", x.recounts(), 4);
    }

    /**
     * r = p = LARGE in all of 12 components: each product is 2 to the 38th, each block is held at
     * 2 to the 36th, and so is the sum of three such: R is 2 to the 36th. With A the unit matrix
     * D is the same, so N/D is 1.
     */
    private static void dotIsHeld() {
        RowTurnSolver x = new RowTurnSolver(12, 1);
        for (int i = 0; i < 12; i++) {
            x.set(i, i, 1);
            x.load(i, LARGE);
        }
        x.start(0, 0, 0, 1);
        Check.due("run(1000)", x.run(1000), 24);
        Check.due("state()", x.state(), 2);
        Check.due("solution(11)", x.solution(11), LARGE);
        // Block 0 has D = 2^36 - 2^38 held at -2^36, the others 2^36: -2^36 + 2^36 + 2^36.
        x.set(3, 3, -1);
        for (int i = 0; i < 12; i++) {
            x.guess(i, 0);
        }
        x.start(0, 0, 0, 1);
        Check.due("run(1000)", x.run(1000), 12);
        Check.due("state()", x.state(), 3);
        Check.due("solution(3)", x.solution(3), LARGE);
        Check.due("residual(3)", x.residual(3), LARGE);
        Check.due("residual(0)", x.residual(0), 0);
        // The last component of the last block decides: 2^36 + 2^36 held, then - 2^36 is 0.
        x.set(3, 3, 1);
        x.set(11, 11, -1);
        for (int i = 0; i < 12; i++) {
            x.guess(i, 0);
        }
        x.start(0, 0, 0, 1);
        Check.due("run(1000)", x.run(1000), 12);
        Check.due("D is held down to 0: state()", x.state(), 4);
    }
}
