/** Promise 11: start, its four numbers, and what each method and kind does. */
public final class StartTest {
    private static final int LARGE = RowTurnSolver.LARGE;
    private static final int NONE = RowTurnSolver.NONE;
    private static final int MIN = Check.MIN;
    private static final int MAX = Check.MAX;

    public static void main(String[] args) {
        Check.runAll(StartTest.class);
    }

    private static void taken(int method, int kind, int tolerance, int limit) {
        Watched x = Check.oneRow(2, 10);
        Check.start(x, method, kind, tolerance, limit);
        Check.stateIs("started", x, tolerance < 10 ? 1 : 2);
        Check.historyIs("started", x, 10);
        Check.residualIs("started", x, 10);
    }

    /** Once before any solve, once after one, which stays as it is. */
    private static void refused(int method, int kind, int tolerance, int limit) {
        String call = "start(" + method + ", " + kind + ", " + tolerance + ", " + limit + ")";
        Watched x = Check.oneRow(2, 10);
        Check.due(call, x.start(method, kind, tolerance, limit), false);
        Check.stateIs("no solve", x, 0);
        Check.due("no solve: history(0)", x.history(0), NONE);
        Check.start(x, 0, 0, 0, 5);
        Check.run(x, 1000, 2);
        Check.due(call + " after a solve", x.start(method, kind, tolerance, limit), false);
        Check.stateIs("the solve before stays", x, 2);
        Check.due("the solve before stays: recounts()", x.recounts(), 1);
        Check.historyIs("the solve before stays", x, 10, 0);
        Check.residualIs("the solve before stays", x, 0);
        Check.solutionIs("the solve before stays", x, 5);
    }

    static void promise11TakesMethods0To2() {
        taken(0, 0, 0, 5);
        taken(1, 0, 0, 5);
        taken(2, 0, 0, 5);
    }

    static void promise11RefusesAMethodBelow0() {
        refused(-1, 0, 0, 5);
        refused(MIN, 0, 0, 5);
    }

    static void promise11RefusesAMethodAbove2() {
        refused(3, 0, 0, 5);
        refused(MAX, 0, 0, 5);
    }

    static void promise11TakesKinds0To3() {
        for (int kind = 0; kind <= 3; kind++) {
            taken(0, kind, 0, 5);
        }
    }

    static void promise11RefusesAKindBelow0() {
        refused(0, -1, 0, 5);
        refused(0, MIN, 0, 5);
    }

    static void promise11RefusesAKindAbove3() {
        refused(0, 4, 0, 5);
        refused(0, MAX, 0, 5);
    }

    static void promise11TakesATolerance0ToLarge() {
        taken(0, 0, 0, 5);
        taken(0, 0, 1, 5);
        taken(0, 0, LARGE - 1, 5);
        taken(0, 0, LARGE, 5);
    }

    static void promise11RefusesAToleranceBelow0() {
        refused(0, 0, -1, 5);
        refused(0, 0, MIN, 5);
    }

    static void promise11RefusesAToleranceAboveLarge() {
        refused(0, 0, LARGE + 1, 5);
        refused(0, 0, MAX, 5);
    }

    static void promise11TakesALimit1To40() {
        taken(0, 0, 0, 1);
        taken(0, 0, 0, 2);
        taken(0, 0, 0, 39);
        taken(0, 0, 0, 40);
    }

    static void promise11RefusesALimitBelow1() {
        refused(0, 0, 0, 0);
        refused(0, 0, 0, -1);
        refused(0, 0, 0, MIN);
    }

    static void promise11RefusesALimitAbove40() {
        refused(0, 0, 0, 41);
        refused(0, 0, 0, MAX);
    }

    static void promise11RefusesUnderWay() {
        Watched x = Check.solver(2, new int[][] {{1, 0}, {0, 3}});
        Check.loadAll(x, 100, 100);
        Check.start(x, 0, 0, 0, 2);
        Check.due("at once", x.start(0, 0, 0, 2), false);
        Check.run(x, 3, 3);
        Check.due("in the second product", x.start(0, 0, LARGE, 1), false);
        Check.stateIs("refused", x, 1);
        Check.leftIs("refused", x, 0, 1);
        Check.historyIs("refused", x, 100, 50);
        Watched y = Scenes.inARecount();
        Check.due("in a recount", y.start(0, 0, 0, 2), false);
    }

    static void promise11TakesAfterEachEnd() {
        for (int state = 2; state <= 7; state++) {
            Watched x = Scenes.ended(state);
            Check.start(x, 0, 0, LARGE, 1);
            Check.stateIs("after state " + state, x, 2);
            Check.due("after state " + state + ": count()", x.count(), 0);
            Check.due("after state " + state + ": recounts()", x.recounts(), 0);
        }
    }

    static void promise11EndsAtOnceWithinTheTolerance() {
        Watched x = Check.oneRow(2, 10);
        Check.guessAll(x, 2);
        Check.start(x, 1, 3, 6, 40);
        Check.stateIs("r is the tolerance", x, 2);
        Check.historyIs("r is the tolerance", x, 6);
        Check.residualIs("r is the tolerance", x, 6);
        Check.leftIs("r is the tolerance", x, NONE);
        Check.due("work(0)", x.work(0), NONE);
        Check.run(x, 1, 0);
        Check.due("recounts()", x.recounts(), 0);
        Check.due("cancel()", x.cancel(), false);
        Check.stateIs("then", x, 2);
    }

    static void promise11DoesNotEndAtOnceAboveTheTolerance() {
        Watched x = Check.oneRow(2, 10);
        Check.guessAll(x, 2);
        Check.start(x, 1, 3, 5, 40);
        Check.stateIs("r is one above the tolerance", x, 1);
        Check.leftIs("r is one above the tolerance", x, 1);
    }

    static void promise11ToleranceOf0TakesOnly0() {
        Watched x = Check.oneRow(1, 7);
        Check.guessAll(x, 7);
        Check.start(x, 0, 0, 0, 1);
        Check.stateIs("r is 0", x, 2);
        Check.guessAll(x, 6);
        Check.start(x, 0, 0, 0, 1);
        Check.stateIs("r is 1", x, 1);
        Check.due("cancel()", x.cancel(), true);
        Check.guessAll(x, 8);
        Check.start(x, 0, 0, 0, 1);
        Check.stateIs("r is -1", x, 1);
    }

    static void promise11ToleranceOfLargeTakesAll() {
        Watched x = Check.oneRow(99, -LARGE);
        Check.guessAll(x, LARGE);
        Check.start(x, 0, 0, LARGE, 1);
        Check.stateIs("r is -LARGE", x, 2);
        Check.start(x, 0, 0, LARGE - 1, 1);
        Check.stateIs("r is one below", x, 1);
    }

    static void promise11ForgetsTheSolveBefore() {
        Watched x = Check.oneRow(2, 10);
        Check.start(x, 0, 0, 0, 5);
        Check.run(x, 1000, 2);
        Check.historyIs("first", x, 10, 0);
        Check.due("first: recounts()", x.recounts(), 1);
        Check.guessAll(x, -1);
        Check.start(x, 0, 0, 0, 5);
        Check.historyIs("second", x, 12);
        Check.due("second: recounts()", x.recounts(), 0);
        Check.leftIs("second", x, 1);
    }

    static void promise11ForgetsTheHalfDoneProduct() {
        Watched x = Scenes.inALaterProduct();
        Check.leftIs("half done", x, 1, 1);
        Check.due("cancel()", x.cancel(), true);
        Check.start(x, 0, 0, 0, 5);
        Check.leftIs("begun anew", x, 2, 1);
        Check.due("count()", x.count(), 0);
    }

    /** The product that begins is that of an iteration, not the rest of the recount. */
    static void promise11ForgetsTheHalfDoneRecount() {
        Watched x = Scenes.inARecount();
        Check.due("cancel()", x.cancel(), true);
        Check.start(x, 1, 0, 3, 9);
        Check.historyIs("begun anew", x, 5);
        Check.run(x, 3, 3);
        Check.due("count()", x.count(), 1);
        Check.due("recounts()", x.recounts(), 0);
    }

    static void promise11EveryMethodAndKindSolvesOneRow() {
        for (int method = 0; method <= 2; method++) {
            for (int kind = 0; kind <= 3; kind++) {
                Watched x = Check.oneRow(2, 10);
                String of = "method " + method + ", kind " + kind;
                Check.start(x, method, kind, 0, 9);
                Check.run(x, 1000, 2);
                Check.stateIs(of, x, 2);
                Check.solutionIs(of, x, 5);
                Check.historyIs(of, x, 10, 0);
            }
        }
    }

    // Promise 11: the methods

    /**
     * A = diag(1, 3), b = (100, 100): r = p = (100, 100), q = (100, 300), N/D = 20000/40000, so
     * x = (50, 50), r = (50, -50).
     */
    private static Watched afterOneStep(int method) {
        Watched x = Check.solver(1, new int[][] {{1, 0}, {0, 3}});
        Check.loadAll(x, 100, 100);
        Check.start(x, method, 0, 0, 9);
        Check.run(x, 2, 2);
        Check.solutionIs("first step", x, 50, 50);
        Check.residualIs("first step", x, 50, -50);
        return x;
    }

    /** p = (50, -50), q = (50, -150), N/D = 5000/10000, x = (75, 25), r = (25, 25). */
    static void promise11Method0TakesZ() {
        Watched x = afterOneStep(0);
        Check.run(x, 2, 2);
        Check.solutionIs("method 0", x, 75, 25);
        Check.residualIs("method 0", x, 25, 25);
        Check.historyIs("method 0", x, 100, 50, 25);
    }

    /** p = r + 5000/20000 of p = (75, -25), q = (75, -75), N/D = 5000/7500, x = (50 + 50, 50 - 16). */
    static void promise11Method1FollowsTheDirectionBefore() {
        Watched x = afterOneStep(1);
        Check.run(x, 2, 2);
        Check.solutionIs("method 1", x, 100, 34);
        Check.residualIs("method 1", x, 0, 0);
        Check.historyIs("method 1", x, 100, 50, 0);
    }

    /** The next solve's first direction is z again: as with method 0. */
    static void promise11Method1BeginsANewSolveWithZ() {
        Watched x = afterOneStep(1);
        Check.due("cancel()", x.cancel(), true);
        Check.start(x, 1, 0, 0, 9);
        Check.run(x, 2, 2);
        Check.solutionIs("a new solve", x, 75, 25);
        Check.residualIs("a new solve", x, 25, 25);
    }

    /**
     * A = (5 -1; -1 8), b = (9, 8), tolerance 3: p = (9, 8), q = (37, 55), N/D = 145/773, x = (1, 1),
     * r = (9 - 6, 8 - 10), within the tolerance; the recount finds r = (5, 1). A new direction is
     * p = (5, 1), q = (24, 3), N/D = 26/123, x = (2, 1), r = (0, 1), by recount (0, 2). One that
     * follows would be (6, 2), and x would stay.
     */
    static void promise11Method1BeginsWithZAfterARecount() {
        Watched x = Check.solver(1, new int[][] {{5, -1}, {-1, 8}});
        Check.loadAll(x, 9, 8);
        Check.start(x, 1, 0, 3, 9);
        Check.run(x, 4, 4);
        Check.residualIs("recounted", x, 5, 1);
        Check.run(x, 2, 2);
        Check.solutionIs("after the recount", x, 2, 1);
        Check.residualIs("after the recount", x, 0, 1);
    }

    /**
     * A = diag(1, 3), b = (5, -5): N/D = 50/100, r = (5 - 2, -5 + 7). Then R = 13, R' = 50:
     * p = (3 + 65/50, 2 - 65/50) = (4, 1), each quotient dropping what is left over; q = (4, 3),
     * N/D = 13/19, x = (2 + 2, -2 + 0), r = (3 - 2, 2 - 2).
     */
    static void promise11Method1DividesTowards0() {
        Watched x = Check.solver(1, new int[][] {{1, 0}, {0, 3}});
        Check.loadAll(x, 5, -5);
        Check.start(x, 1, 0, 0, 9);
        Check.run(x, 2, 2);
        Check.solutionIs("first", x, 2, -2);
        Check.residualIs("first", x, 3, 2);
        Check.run(x, 2, 2);
        Check.solutionIs("second", x, 4, -2);
        Check.residualIs("second", x, 1, 0);
    }

    /**
     * A = (1 2; -2 1), b = (1, 0): R' = 1, r = (0, 2); R = 4, p = (0 + 4, 2 + 0), q = (8, -6), D = 20:
     * x = (1 + 16/20, 8/20), r = (0 - 32/20, 2 + 24/20).
     */
    static void promise11Method1FollowsAnRBeforeOf1() {
        Watched x = Check.solver(1, new int[][] {{1, 2}, {-2, 1}});
        Check.loadAll(x, 1, 0);
        Check.start(x, 1, 0, 0, 9);
        Check.run(x, 4, 4);
        Check.solutionIs("R' is 1", x, 1, 0);
        Check.residualIs("R' is 1", x, -1, 3);
        Check.historyIs("R' is 1", x, 1, 2, 3);
    }

    /**
     * A = (-8 -9; 0 16), b = (1, 1), kind 1: z = (-2, 1), R' = -1, q = (7, 16), D = 2, x = (1, 0),
     * r = (1 + 3, 1 + 8). z = (-8, 9), R = 49, p = (-8 + 98, 9 - 49), q = (-360, -640), and
     * D = -32400 + 25600: BROKEN. With p = z it would be above 0.
     */
    static void promise11Method1FollowsAnRBeforeBelow0() {
        Watched x = Check.solver(1, new int[][] {{-8, -9}, {0, 16}});
        Check.loadAll(x, 1, 1);
        Check.start(x, 1, 1, 0, 9);
        Check.run(x, 2, 2);
        Check.solutionIs("R' is -1", x, 1, 0);
        Check.residualIs("R' is -1", x, 4, 9);
        Check.run(x, 1000, 2);
        Check.stateIs("R' is -1", x, 4);
    }

    /**
     * Points 4 and 8 have no entries, so their r stays LARGE and R is held at 2 to the 36th; points
     * 5 and 9 have 1 on the diagonal, so that their p stays LARGE and D is held likewise. So
     * N / D = R / R' = 1. The second p of points 0, 2 and 3 is 2 r - q with the first r and q, and x
     * is what it was, and r, and that p: at first -LARGE, LARGE and -LARGE, so that none is clipped.
     */
    static void promise11Method1ClipsTheDirection() {
        Watched x = new Watched(10, 1);
        Check.setAll(x, new int[][] {{0, 1, 0, 0}, {0, 0, 0, 0}, {0, -1, 0, 0}, {0, 2, 0, 0}});
        Check.loadAll(x, 262145, 1, -262145, 262145, LARGE, LARGE, 0, 0, LARGE, LARGE);
        Check.guessAll(x, -LARGE, 0, LARGE, -LARGE);
        Check.due("set(5, 5, 1)", x.set(5, 5, 1), true);
        Check.due("set(9, 9, 1)", x.set(9, 9, 1), true);
        Check.start(x, 1, 0, 0, 2);
        Check.run(x, 10, 10);
        Check.residualIs("first", x, 262144, 1, -262144, 262143, LARGE, 0);
        Check.solutionIs("first", x, -262143, 1, 262143, -262143);
        Check.run(x, 10, 10);
        Check.due("p is LARGE + 1, clipped", x.solution(0), 262145);
        Check.due("p is not clipped", x.solution(1), 3);
        Check.due("p is -LARGE - 1, clipped", x.solution(2), -262145);
        Check.due("p is LARGE", x.solution(3), 262145);
    }

    /** r = p = (100, 100), q = (100, 300): N = 40000, D = 100000. */
    static void promise11Method2TakesTheLeastResidual() {
        Watched x = Check.solver(1, new int[][] {{1, 0}, {0, 3}});
        Check.loadAll(x, 100, 100);
        Check.start(x, 2, 0, 0, 9);
        Check.run(x, 2, 2);
        Check.solutionIs("method 2", x, 40, 40);
        Check.residualIs("method 2", x, 60, -20);
        Check.historyIs("method 2", x, 100, 60);
    }

    // Promise 11: the kinds of preparing

    static void promise11Kind0TakesR() {
        int[] r = {5, -7, LARGE, -LARGE};
        Glass.zIs(0, Glass.diagonal(0, 3, -2, 99), r, r);
    }

    static void promise11Kind1DividesByTheDiagonal() {
        Glass.zIs(1, Glass.diagonal(2, 16, 99, 7), new int[] {10, 10, LARGE, 10}, 80, 10, 84733, 22);
    }

    static void promise11Kind1DividesTowards0() {
        Glass.zIs(1, Glass.diagonal(3, 3, -3, -3), new int[] {5, -5, 5, -5}, 26, -26, -26, 26);
    }

    static void promise11Kind1TakesROverADiagonalOf0() {
        int[] r = {5, -5, LARGE, -LARGE};
        Glass.zIs(1, new int[4][4], r, r);
        Glass.zIs(1, new int[][] {{0, 9, 9, 9}}, new int[] {7, 0, 0, 0}, 7, 0, 0, 0);
    }

    /** With a diagonal of 1, b = r + x; x is at first -16 or 16, so that it is not clipped itself. */
    static void promise11Kind1ClipsZ() {
        Watched x = Glass.over(Glass.diagonal(1, 1, 1, 1), 32768 - 16, 32769 - 16, -32768 + 16, -32769 + 16);
        Check.guessAll(x, -16, -16, 16, 16);
        Glass.look(x, 1);
        Check.due("z is LARGE", x.solution(0), LARGE - 16);
        Check.due("z is LARGE + 16, clipped", x.solution(1), LARGE - 16);
        Check.due("z is -LARGE", x.solution(2), -LARGE + 16);
        Check.due("z is -LARGE - 16, clipped", x.solution(3), -LARGE + 16);
    }

    /** UP: z = (160/2, (320 - 80)/4) = (80, 60); DOWN: z_1 stays 60, z_0 = (160 - 60)/2 = 50. */
    static void promise11Kind2SweepsUpAndThenDown() {
        Glass.zIs(2, new int[][] {{2, 1}, {1, 4}}, new int[] {10, 20}, 50, 60);
    }

    static void promise11Kind2DividesTowards0() {
        Glass.zIs(2, Glass.diagonal(3, 3, -3, -3), new int[] {5, -5, 5, -5}, 26, -26, -26, 26);
    }

    /** z_0 stays 0, so z_1 = 320/4. */
    static void promise11Kind2PassesByADiagonalOf0() {
        Glass.zIs(2, new int[][] {{0, 1}, {1, 4}}, new int[] {10, 20}, 0, 80);
        Glass.zIs(2, new int[4][4], new int[] {10, -10, LARGE, -LARGE}, 0, 0, 0, 0);
    }

    /** What a cycle left on a level is not there when sweeps begin. */
    static void promise11Kind2BeginsWithZ0() {
        int[][] rows = {{0, 0}, {-2, 4}};
        Watched x = Glass.over(rows, 32768, 0);
        Glass.look(x, 3);
        Check.due("kind 3: z_0 of a diagonal of 0", x.solution(0), 262144);
        Check.guessAll(x, 0, 0, 0, 0, 0, 0, 0, 0, 0);
        Glass.look(x, 2);
        Check.due("kind 2: z_0 of a diagonal of 0", x.solution(0), 0);
    }

    /**
     * Points 1 and 3 show the clipped value of the point above them: (16 * 32768 - LARGE) / 2 = 0,
     * and not (16 * 32768 - 16 * 32769) / 2.
     */
    static void promise11Kind2ClipsZOnTheWayUp() {
        int[][] rows = {{1, 0, 0, 0}, {1, 2, 0, 0}, {0, 0, 1, 0}, {0, 0, 1, 2}};
        Glass.zIs(2, rows, new int[] {32769, 32768, -32769, -32768}, LARGE, 0, -LARGE, 0);
        Glass.zIs(2, rows, new int[] {32768, 32768, -32768, -32768}, LARGE, 0, -LARGE, 0);
        Glass.zIs(2, rows, new int[] {32767, 32768, -32767, -32768}, LARGE - 16, 8, -LARGE + 16, -8);
    }

    /**
     * UP: z_0 = 16 * 32768 = LARGE, z_1 = r_1; DOWN: z_0 = LARGE - r_1. x_0 is at first -5, so that
     * it is not clipped itself, and so b_0 = r_0 - 5.
     */
    static void promise11Kind2ClipsZOnTheWayDown() {
        int[] below = {1, 0, -1, -2};
        int[] grown = {LARGE - 1, LARGE, LARGE, LARGE};
        for (int k = 0; k < below.length; k++) {
            for (int sign = -1; sign <= 1; sign += 2) {
                Watched x = Glass.over(new int[][] {{1, 1}, {0, 16}}, sign * (32768 - 5), sign * below[k]);
                Check.guessAll(x, sign * -5);
                Glass.look(x, 2);
                Check.due("z_0 is LARGE - " + below[k], x.solution(0), sign * (grown[k] - 5));
                Check.due("z_1", x.solution(1), sign * below[k]);
            }
        }
    }

    /** z_1 = (16 LARGE - 99 LARGE) / 99: neither the right side nor the sum is clipped. */
    static void promise11Kind2ReckonsExactly() {
        Glass.zIs(2, new int[][] {{1, 0}, {99, 99}}, new int[] {LARGE, LARGE}, LARGE, -439554);
        Glass.zIs(2, Glass.diagonal(99), new int[] {-LARGE}, -84733);
    }

    /**
     * UP and DOWN as by kind 2: (50, 60); UP: z_0 = (160 - 60)/2 = 50, z_1 = (320 - 50)/4 = 67;
     * DOWN: z_1 = 67, z_0 = (160 - 67)/2 = 46.
     */
    static void promise11Kind3WithoutAFurtherLevelSweepsFourTimes() {
        Glass.zIs(3, new int[][] {{2, 1}, {1, 4}}, new int[] {10, 20}, 46, 67);
    }

    /**
     * f = (160, 320, 480). UP: 80, 60, 340/3 = 113; DOWN: 113, 127/4 = 31, 16/2 = 8; UP: 8,
     * 199/4 = 49, 423/3 = 141; DOWN: 141, 171/4 = 42, -23/2 = -11.
     */
    static void promise11Kind3SweepsUpDownUpDown() {
        int[][] rows = {{2, 1, 1}, {1, 4, 1}, {1, 1, 3}};
        Glass.zIs(3, rows, new int[] {10, 20, 30}, -11, 42, 141);
    }

    /**
     * What an iteration or a former solve left on any level is not there when a cycle begins: the
     * same solve, made a second time, goes the same way.
     */
    static void promise11Kind3BeginsWithZ0() {
        goesTheSameWayTwice(new int[][] {{2, 1, 1}, {1, 4, 1}, {1, 1, 3}}, 1);
        goesTheSameWayTwice(Check.chain(4, 20, -9), 2);
        goesTheSameWayTwice(Check.chain(5, 20, -7), 2);
        goesTheSameWayTwice(Check.chain(12, 20, -9), 3);
    }

    private static void goesTheSameWayTwice(int[][] rows, int levels) {
        Watched x = Check.solver(1, rows);
        Check.due("levels()", x.levels(), levels);
        for (int i = 0; i < rows.length; i++) {
            Check.due("load", x.load(i, 3000 - 777 * i), true);
        }
        Check.start(x, 0, 3, 0, 1);
        Check.run(x, 1000, rows.length);
        int[] first = new int[rows.length];
        for (int i = 0; i < rows.length; i++) {
            first[i] = x.solution(i);
            Check.due("guess", x.guess(i, 0), true);
        }
        Check.start(x, 0, 3, 0, 1);
        Check.run(x, 1000, rows.length);
        Check.solutionIs("a second time", x, first);
    }

    /**
     * Order 2 has one level, whatever leans. UP: z = (8000, 10000); DOWN: 10000, 13000; UP: 13000,
     * 11250; DOWN: 11250, 13625. p = (13625, 11250): q = (16000, 31375), N = 36125000,
     * D = 570968750: x = (862, 711), r = (1000 - 1012, 2000 - 1985).
     */
    static void promise11Kind3OfOrder2HasNoFurtherLevel() {
        Watched x = Check.solver(1, new int[][] {{2, -1}, {-1, 4}});
        Check.loadAll(x, 1000, 2000);
        Check.start(x, 0, 3, 0, 9);
        Check.run(x, 2, 2);
        Check.solutionIs("order 2", x, 862, 711);
        Check.residualIs("order 2", x, -12, 15);
    }

    /**
     * f = (48, 80, 16). UP: z = (12, (80 + 48)/9 = 14, 5). 1 leans on 0 and 0 on 1, so group 0 is
     * {0, 1}, and 2 is in none. The level below is (5), g = (48 - 48 + 56) + (80 + 48 - 126) = 58,
     * e = 11: z = (23, 25, 5). DOWN: z_2 = 5, z_1 = (80 + 92)/9 = 19, z_0 = (48 + 76)/4 = 31.
     */
    static void promise11Kind3AddsWhatTheFurtherLevelGives() {
        Glass.zIs(3, new int[][] {{4, -4, 0}, {-4, 9, 0}, {0, 0, 3}}, new int[] {3, 5, 1}, 31, 19, 5);
    }

    /** The same matrix without the looking glass: of order 3, the least that has a further level. */
    static void promise11Kind3OfOrder3HasAFurtherLevel() {
        Watched x = Check.solver(1, new int[][] {{4, -4, 0}, {-4, 9, 0}, {0, 0, 3}});
        Check.loadAll(x, 3, 5, 1);
        Check.start(x, 0, 3, 0, 9);
        // p = (31, 19, 5), q = (48, 47, 15), N = 193, D = 2456.
        Check.run(x, 3, 3);
        Check.solutionIs("order 3", x, 2, 1, 0);
        Check.residualIs("order 3", x, 0, 2, 0);
    }

    /**
     * Point 0 has a diagonal of 0, and 1 leans on it: z_0 stays 0 and then e. 2 is in no group and
     * has a diagonal of 0 too: z_2 stays 0. The entry below is 4 - 2; g = 16 * 10 + 0, e = 80;
     * z_1 = (0 + 2 * 80)/4.
     */
    static void promise11Kind3PassesByADiagonalOf0() {
        Glass.zIs(3, new int[][] {{0, 0, 0}, {-2, 4, 0}, {0, 0, 0}}, new int[] {10, 0, 7}, 80, 40, 0);
    }

    /** The entry below is 2 - 2 = 0, so e stays 0. */
    static void promise11Kind3PassesByADiagonalOf0Below() {
        Glass.zIs(3, new int[][] {{0, 0}, {-2, 2}}, new int[] {10, 0}, 0, 0);
    }

    /**
     * z_0 = e = g / 3. UP: z_0 = 0, z_1 = 16 r_1 / 5 leaves 1, 0 or -1 of 16 r_1, so
     * g = 16 * 32768 + that: 524289 / 3 would be 174763.
     */
    static void promise11Kind3ClipsTheRightSideBelow() {
        int[][] by3 = {{0, 0}, {-2, 5}};
        int[][] by2 = {{0, 0}, {-2, 4}};
        for (int sign = -1; sign <= 1; sign += 2) {
            int r = sign * 32768;
            Glass.zIs(3, by3, new int[] {r, sign}, sign * 174762);
            Glass.zIs(3, by3, new int[] {r, 0}, sign * 174762);
            Glass.zIs(3, by2, new int[] {r, 0}, sign * 262144);
            Glass.zIs(3, by2, new int[] {r + sign, 0}, sign * 262144);
            Glass.zIs(3, by2, new int[] {r - sign, 0}, sign * (262144 - 8));
            Glass.zIs(3, by2, new int[] {sign * LARGE, 0}, sign * 262144);
        }
    }

    /**
     * The first: UP z = (523872, 523888/36 = 14552), g = 14552 + 16, e = 14568/35 = 416, so z_0 is
     * LARGE; DOWN z_1 = (16 + LARGE)/36 = 14564, one less if z_0 were one less.
     * The second: UP z = (524160, (16 + 2 * 524160)/91 = 11520), g = 11520 + 16, e = 11536/89 = 129,
     * so z_0 would be LARGE + 1; DOWN z_1 = (16 + 2 LARGE)/91 = 11522, one more if it were not clipped.
     */
    static void promise11Kind3ClipsTheSumOfZAndE() {
        for (int sign = -1; sign <= 1; sign += 2) {
            int[] at = {sign * 32742, sign};
            Glass.zIs(3, new int[][] {{1, -1}, {-1, 36}}, at, sign * LARGE, sign * 14564);
            int[] above = {sign * 32760, sign};
            Glass.zIs(3, new int[][] {{1, -1}, {-2, 91}}, above, sign * LARGE, sign * 11522);
        }
    }

    /**
     * All 8 points are one group. UP: z_0 .. z_6 are clipped to LARGE, z_7 stays 0. The parts of g
     * are 594 LARGE, six times 593 LARGE and 693 LARGE: 2540175360 in all, more than an int holds. So
     * g is LARGE, the entry below is 7 - 56 * 99, e = -94, and z_7 is that; DOWN: the others are
     * LARGE again. q = (-514982 six times, 9306, -LARGE), N = 32768 * -514982, D is 2 to the 36th.
     */
    static void promise11Kind3ReckonsExactly() {
        int[][] rows = new int[8][8];
        for (int i = 0; i < 8; i++) {
            for (int j = 0; j < 8; j++) {
                rows[i][j] = i == j ? 1 : -99;
            }
        }
        rows[7][7] = 0;
        Watched x = Check.solver(1, rows);
        Check.due("load(0, 32768)", x.load(0, 32768), true);
        Check.start(x, 2, 3, 0, 1);
        Check.run(x, 8, 8);
        int other = -128745;
        Check.solutionIs("exact", x, other, other, other, other, other, other, other, 23);
    }

    /**
     * Pairs {0, 1}, {2, 3}, {5, 6}, all diagonals 0, on level 1 too, as 20 - 20 = 0; there group 1
     * leans on group 0 by -4, so that level 2 is (-4). All z stay 0 on the way down, g is
     * 16 * (1 + 2 + 3 + 4) there, e = 160 / -4, and comes up as it is; pair {5, 6} gets nothing.
     */
    static void promise11Kind3GoesDownToTheThirdLevel() {
        int[][] rows = new int[7][7];
        for (int low : new int[] {0, 2, 5}) {
            rows[low][low + 1] = 20;
            rows[low + 1][low] = -20;
        }
        rows[3][0] = -4;
        Watched x = Glass.over(rows, 1, 2, 3, 4);
        Check.due("levels()", x.levels(), 3);
        Check.groupsAre(x, 0, 0, 0, 1, 1, NONE, 2, 2, NONE, NONE);
        Check.groupsAre(x, 1, 0, 0, NONE);
        Check.due("entry(2, 0, 0)", x.entry(2, 0, 0), -4);
        Glass.look(x, 3);
        Check.solutionIs("three levels", x, -40, -40, -40, -40, LARGE, 0, 0, 0, LARGE);
    }

    /** The levels are those of the A that the solve was started with. */
    static void promise11Kind3UsesTheLevelsOfThePresentA() {
        Watched x = Glass.over(new int[][] {{0, 0}, {-2, 4}}, 10, 0);
        Check.due("levels()", x.levels(), 2);
        Check.due("set(1, 0, 2)", x.set(1, 0, 2), true);
        Glass.look(x, 3);
        Check.solutionIs("without a further level", x, 0, 0);
        Check.due("set(1, 0, -2)", x.set(1, 0, -2), true);
        Check.guessAll(x, 0, 0, 0, 0, 0, 0, 0, 0, 0);
        Glass.look(x, 3);
        Check.solutionIs("with a further level", x, 80, 40);
    }
}
