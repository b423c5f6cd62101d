/** Promises 12 to 14: work, run, left, and what follows the last row of a product. */
public final class WorkTest {
    private static final int LARGE = RowTurnSolver.LARGE;
    private static final int NONE = RowTurnSolver.NONE;
    private static final int MIN = Check.MIN;
    private static final int MAX = Check.MAX;
    /** Its square is 2 to the 36th, at which the sums of a DOT are held. */
    private static final int ROOT = 262144;

    public static void main(String[] args) {
        Check.runAll(WorkTest.class);
    }

    /** Rows 0 and 1 are worker 0's, rows 2 and 3 are worker 1's. */
    private static Watched started() {
        Watched x = Check.solver(2, Check.chain(4, 20, -10));
        Check.loadAll(x, 1000, 2000, -500, 700);
        Check.start(x, 1, 0, 9, 20);
        return x;
    }

    // Promise 12: what work answers

    static void promise12IsNoneBeforeAnySolve() {
        Watched x = Scenes.filled();
        Check.due("work(0)", x.work(0), NONE);
        Check.due("work(1)", x.work(1), NONE);
    }

    static void promise12IsNoneAfterEachEnd() {
        for (int state = 2; state <= 7; state++) {
            Watched x = Scenes.ended(state);
            Check.due("work(0) in state " + state, x.work(0), NONE);
            Check.due("work(1) in state " + state, x.work(1), NONE);
            Check.stateIs("then", x, state);
        }
    }

    static void promise12IsNoneBelowWorker0() {
        Watched x = started();
        Check.due("work(-1)", x.work(-1), NONE);
        Check.due("work(MIN)", x.work(MIN), NONE);
        Check.leftIs("then", x, 2, 2);
    }

    static void promise12IsNoneAboveTheLastWorker() {
        Watched x = started();
        Check.due("work(2)", x.work(2), NONE);
        Check.due("work(4)", x.work(4), NONE);
        Check.due("work(MAX)", x.work(MAX), NONE);
        Check.leftIs("then", x, 2, 2);
    }

    static void promise12AnswersWhatTheWorkerHasLeft() {
        Watched x = started();
        Check.due("work(1)", x.work(1), 1);
        Check.due("work(1)", x.work(1), 0);
        Check.due("work(0)", x.work(0), 1);
    }

    static void promise12IsNoneWithoutARowLeft() {
        Watched x = started();
        Check.due("work(1)", x.work(1), 1);
        Check.due("work(1)", x.work(1), 0);
        Check.due("work(1) without a row", x.work(1), NONE);
        Check.due("work(1) once more", x.work(1), NONE);
        Check.leftIs("then", x, 2, 0);
    }

    static void promise12IsNoneForAWorkerWhoNeverHasARow() {
        Watched x = new Watched(3, 4);
        Check.loadAll(x, 1, 2, 3);
        Check.start(x, 0, 0, 0, 1);
        for (int k = 0; k < 3; k++) {
            Check.due("work(" + k + ")", x.work(k), NONE);
        }
        Check.due("work(3)", x.work(3), 2);
    }

    static void promise12Is0WhenTheNextIterationBegins() {
        Watched x = started();
        Check.run(x, 3, 3);
        Check.due("count()", x.count(), 0);
        Check.due("work(1), the last of all", x.work(1), 0);
        Check.due("count()", x.count(), 1);
        Check.due("history(1)", x.history(1), 1586);
        Check.leftIs("the next product", x, 2, 2);
    }

    static void promise12Is0WhenARecountBegins() {
        Watched x = Check.oneRow(2, 10);
        Check.start(x, 0, 0, 0, 5);
        Check.due("work(0)", x.work(0), 0);
        Check.stateIs("in the recount", x, 1);
        Check.leftIs("in the recount", x, 1);
        Check.historyIs("in the recount", x, 10, 0);
        Check.due("recounts()", x.recounts(), 0);
    }

    static void promise12Is0WhenTheSolveEnds() {
        Watched x = Check.oneRow(2, 10);
        Check.start(x, 0, 0, 0, 5);
        Check.due("work(0)", x.work(0), 0);
        Check.due("work(0), the recount's", x.work(0), 0);
        Check.stateIs("converged", x, 2);
        Watched y = Check.oneRow(-3, 5);
        Check.start(y, 0, 0, 0, 9);
        Check.due("work(0)", y.work(0), 0);
        Check.stateIs("broken", y, 4);
    }

    static void promise12NextIterationBeginsAfterARecount() {
        Watched x = Scenes.inARecount();
        Check.leftIs("in the recount", x, 1, 1);
        Check.due("work(1)", x.work(1), 0);
        Check.due("recounts()", x.recounts(), 0);
        Check.residualIs("before the last row", x, 3, -2, 0);
        Check.due("work(0)", x.work(0), 0);
        Check.due("recounts()", x.recounts(), 1);
        Check.residualIs("after the last row", x, 5, 1, 0);
        Check.leftIs("the next product", x, 2, 1);
    }

    /** 1 and 0 have done their rows in this order, and what comes out is the same. */
    static void promise12OrderOfTheTurnsDoesNotMatter() {
        Watched x = started();
        int[] turns = {1, 0, 1, 0};
        int[] left = {1, 1, 0, 0};
        for (int k = 0; k < turns.length; k++) {
            Check.due("work(" + turns[k] + ")", x.work(turns[k]), left[k]);
        }
        Check.due("history(1)", x.history(1), 1586);
    }

    // Promise 12: the arithmetic of an iteration

    /** A = diag(1, 3), b = (5, -5): N = 50, D = 100; 250/100 = 2, -250/100 = -2, -750/100 = -7. */
    static void promise12DividesTowards0() {
        Watched x = Check.solver(1, new int[][] {{1, 0}, {0, 3}});
        Check.loadAll(x, 5, -5);
        Check.start(x, 0, 0, 0, 9);
        Check.run(x, 2, 2);
        Check.solutionIs("quotients", x, 2, -2);
        Check.residualIs("quotients", x, 3, 2);
    }

    /** q_0 is 300000, then 600000 clipped, then 100000 less: r_0 = 300000 - 424288. */
    static void promise12ProductIsClippedAfterEachAddition() {
        for (int sign = -1; sign <= 1; sign += 2) {
            Watched x = Glass.over(new int[][] {{1, 1, -1}}, sign * 300000, sign * 300000, sign * 100000);
            Glass.look(x, 0);
            Check.residualIs("clipped on the way", x, sign * -124288, sign * 300000, sign * 100000);
        }
    }

    /** q = 2 LARGE, clipped, so r = 0, though x is LARGE; the recount clips its product too. */
    static void promise12ProductOfARecountIsClipped() {
        for (int sign = -1; sign <= 1; sign += 2) {
            Watched x = Check.oneRow(2, sign * LARGE);
            Check.start(x, 0, 0, 0, 9);
            Check.run(x, 1000, 2);
            Check.stateIs("clipped", x, 2);
            Check.solutionIs("clipped", x, sign * LARGE);
            Check.historyIs("clipped", x, LARGE, 0);
        }
    }

    /**
     * a = 99, x = -LARGE, b = LARGE, kind 1: r = LARGE, z = 16 LARGE / 99 = 84733, q is clipped to
     * LARGE, N = D, x = 84733 - LARGE, r = 0. The recount's product is clipped to -LARGE, and r, 2
     * LARGE, to LARGE.
     */
    static void promise12ResidualOfARecountIsClipped() {
        for (int sign = -1; sign <= 1; sign += 2) {
            Watched x = Check.oneRow(99, sign * LARGE);
            Check.guessAll(x, sign * -LARGE);
            Check.start(x, 0, 1, 0, 9);
            Check.run(x, 1, 1);
            Check.residualIs("before the recount", x, 0);
            Check.run(x, 1, 1);
            Check.residualIs("after the recount", x, sign * LARGE);
            Check.historyIs("after the recount", x, LARGE, LARGE);
            Check.solutionIs("after the recount", x, sign * (84733 - LARGE));
        }
    }

    /** Without entries r is b, and x grows by it. */
    static void promise12XIsClipped() {
        int near = LARGE - 5;
        Watched x = Glass.over(new int[4][4], 5, 6, -5, -6);
        Check.guessAll(x, near, near, -near, -near);
        Glass.look(x, 0);
        Check.solutionIs("up to LARGE, and over it", x, LARGE, LARGE, -LARGE, -LARGE);
        Watched y = Glass.over(new int[4][4], 4, LARGE, -4, -LARGE);
        Check.guessAll(y, near, near, -near, -near);
        Glass.look(y, 0);
        Check.solutionIs("below LARGE, and far over it", y, LARGE - 1, LARGE, -LARGE + 1, -LARGE);
    }

    /** q_0 = -r_1 and q_2 = r_1. */
    static void promise12RIsClipped() {
        int[][] rows = {{0, -1, 0}, {0, 0, 0}, {0, 1, 0}};
        int[] grown = {4, 5, 6, LARGE};
        int[] due = {LARGE - 1, LARGE, LARGE, LARGE};
        for (int k = 0; k < grown.length; k++) {
            Watched x = Glass.over(rows, LARGE - 5, grown[k], -LARGE + 5);
            Glass.look(x, 0);
            Check.residualIs("grown by " + grown[k], x, due[k], grown[k], -due[k]);
            Check.due("history(1)", x.history(1), due[k]);
        }
    }

    /** The same with q below 0: r_0 = -LARGE + 5 - 6. */
    static void promise12RIsClippedAtMinusLarge() {
        Watched x = Glass.over(new int[][] {{0, -1}, {0, 0}}, -LARGE + 5, -6);
        Glass.look(x, 0);
        Check.residualIs("over -LARGE", x, -LARGE, -6);
    }

    // Promise 12: DOT

    /** With a diagonal A and p = r = b, the limit of 1 ends the solve, if it is not BROKEN before. */
    private static void isBroken(boolean due, int method, int[] b, int... diagonal) {
        Watched x = Check.solver(1, Glass.diagonal(diagonal));
        Check.loadAll(x, b);
        Check.start(x, method, 0, 0, 1);
        Check.run(x, b.length, b.length);
        Check.stateIs("method " + method, x, due ? 4 : 3);
    }

    /** D is the DOT of b and of b times the diagonal; N is above 0. */
    private static void dIsAbove0(boolean due, int[] b, int... diagonal) {
        isBroken(!due, 0, b, diagonal);
    }

    /** N is the DOT of b and of b times the diagonal; D is above 0. */
    private static void nOfMethod2Is0(boolean due, int[] b, int... diagonal) {
        isBroken(due, 2, b, diagonal);
    }

    /** 2 to the 36th is not lessened: 2^36 - 2^36 + 1. */
    static void promise12BlockMayBe2ToThe36th() {
        dIsAbove0(true, new int[] {ROOT, ROOT, 1}, 1, -1, 1);
    }

    /** 2^36 + 1 is: 2^36 + 1 - 2^36 is 0. */
    static void promise12BlockIsHeldAt2ToThe36th() {
        dIsAbove0(false, new int[] {ROOT, 1, ROOT}, 1, 1, -1);
    }

    /** -2^36 is not lessened: -2^36 + 2^36 is 0. */
    static void promise12BlockMayBeMinus2ToThe36th() {
        dIsAbove0(false, new int[] {ROOT, ROOT}, -1, 1);
    }

    /** -2^36 - 1 is: -2^36 - 1 + 2^36 + 1 is 1. */
    static void promise12BlockIsHeldAtMinus2ToThe36th() {
        dIsAbove0(true, new int[] {ROOT, 1, ROOT, 1}, -1, -1, 1, 1);
    }

    /** 2^36 + 2^36 - 2^36 is 0; from the last on it would be 2^36. */
    static void promise12BlockIsAddedInAscendingOrder() {
        dIsAbove0(false, new int[] {ROOT, ROOT, ROOT}, 1, 1, -1);
        dIsAbove0(true, new int[] {ROOT, ROOT, ROOT}, -1, 1, 1);
    }

    /** 2^38 is held at once, so that one times -2^36 takes all of it. */
    static void promise12BlockIsHeldFarAbove() {
        dIsAbove0(false, new int[] {LARGE, ROOT}, 1, -1);
        dIsAbove0(true, new int[] {LARGE, ROOT, 1}, -1, 1, 1);
    }

    /** Component 3 is in block 0 with 0, and 4 is not: blocks of 2^36 (held) and -2^36. */
    static void promise12BlockHasFourComponents() {
        dIsAbove0(false, new int[] {ROOT, 0, 0, ROOT, ROOT}, 1, 0, 0, 1, -1);
        dIsAbove0(true, new int[] {0, 0, 0, ROOT, ROOT, ROOT}, 0, 0, 0, 1, 1, -1);
    }

    /** So with 7 and 8. */
    static void promise12SecondBlockHasFourComponents() {
        dIsAbove0(false, new int[] {0, 0, 0, 0, ROOT, 0, 0, ROOT, ROOT}, 0, 0, 0, 0, 1, 0, 0, 1, -1);
        dIsAbove0(true, new int[] {0, 0, 0, 0, 0, 0, 0, ROOT, ROOT, ROOT}, 0, 0, 0, 0, 0, 0, 0, 1, 1, -1);
    }

    /** Blocks of 2^36, 1 and -2^36: the 1 is lost. */
    static void promise12SumOfBlocksIsHeldAt2ToThe36th() {
        int[] b = {ROOT, 0, 0, 0, 1, 0, 0, 0, ROOT};
        dIsAbove0(false, b, 1, 0, 0, 0, 1, 0, 0, 0, -1);
    }

    /** Blocks of 2^36, -2^36 and 1: nothing is lost. */
    static void promise12SumOfBlocksMayBe2ToThe36th() {
        int[] b = {ROOT, 0, 0, 0, ROOT, 0, 0, 0, 1};
        dIsAbove0(true, b, 1, 0, 0, 0, -1, 0, 0, 0, 1);
    }

    /** Method 2: N is -2^36 - 1 + 2^36 by its blocks, so that the 1 is lost and N is 0. */
    static void promise12SumOfBlocksIsHeldAtMinus2ToThe36th() {
        nOfMethod2Is0(true, new int[] {ROOT, 0, 0, 0, 1, 0, 0, 0, ROOT}, -1, 0, 0, 0, -1, 0, 0, 0, 1);
        nOfMethod2Is0(false, new int[] {1, 0, 0, 0, ROOT, 0, 0, 0, ROOT}, -1, 0, 0, 0, 1, 0, 0, 0, -1);
    }

    /** Method 2: N is -2^36 + 2^36 by its blocks. */
    static void promise12SumOfBlocksMayBeMinus2ToThe36th() {
        nOfMethod2Is0(true, new int[] {ROOT, 0, 0, 0, 0, 0, 0, 0, ROOT}, -1, 0, 0, 0, 0, 0, 0, 0, 1);
    }

    /** 2^36 + 2^36 - 2^36 is 0; from the last on it would be 2^36. */
    static void promise12BlocksAreAddedInAscendingOrder() {
        int[] b = {ROOT, 0, 0, 0, ROOT, 0, 0, 0, ROOT};
        dIsAbove0(false, b, 1, 0, 0, 0, 1, 0, 0, 0, -1);
        dIsAbove0(true, b, -1, 0, 0, 0, 1, 0, 0, 0, 1);
    }

    /** For every order, the last component counts, also when it is alone in its block. */
    static void promise12DotTakesTheLastComponent() {
        for (int n = 1; n <= 12; n++) {
            Watched x = new Watched(n, 1);
            Check.due("set", x.set(n - 1, n - 1, 2), true);
            Check.due("load", x.load(n - 1, 10), true);
            Check.start(x, 0, 0, 0, 9);
            Check.run(x, 1000, 2 * n);
            Check.stateIs("order " + n, x, 2);
            Check.due("order " + n + ": solution(n - 1)", x.solution(n - 1), 5);
        }
    }

    /** 2^36 + 1 - 2^36 is held to 0; with 1 more it is 1. */
    static void promise12NOfMethod2IsHeld() {
        nOfMethod2Is0(true, new int[] {ROOT, 1, ROOT, 1}, 1, 1, -1, 0);
        nOfMethod2Is0(false, new int[] {ROOT, 1, ROOT, 1}, 1, 1, -1, 1);
    }

    /** N and D are both held at 2^36, though the squares are 2^38 and there are twelve: N / D = 1. */
    static void promise12NAndDAreHeldAlike() {
        for (int method = 0; method <= 2; method++) {
            Watched x = new Watched(12, 1);
            for (int i = 0; i < 12; i++) {
                Check.due("set", x.set(i, i, 1), true);
                Check.due("load", x.load(i, LARGE), true);
            }
            Check.start(x, method, 0, 0, 1);
            Check.run(x, 1000, 24);
            Check.stateIs("method " + method, x, 2);
            Check.due("solution(11)", x.solution(11), LARGE);
        }
    }

    /** R is 2^36 + 2^36 + 2^34, held at 2^36; D is 2^36 + 2^36, held likewise, then less 2^35. */
    static void promise12ROfMethod0IsHeld() {
        int half = 131072;
        Watched x = Check.solver(1, Glass.diagonal(1, 0, 0, 0, 1, 0, 0, 0, -2));
        Check.loadAll(x, ROOT, 0, 0, 0, ROOT, 0, 0, 0, half);
        Check.start(x, 0, 0, 0, 1);
        Check.run(x, 9, 9);
        // q = (2^18, .., 2^18, .., -2^18): D = 2^36 - 2^17 * 2^18 = 2^35, so N / D = 2.
        Check.solutionIs("N / D is 2", x, LARGE, 0, 0, 0, LARGE, 0, 0, 0, ROOT);
        Check.residualIs("N / D is 2", x, -ROOT, 0, 0, 0, -ROOT, 0, 0, 0, LARGE);
    }

    // Promise 13: run

    static void promise13IsZeroBeforeAnySolve() {
        Watched x = Scenes.filled();
        Check.run(x, 1, 0);
        Check.run(x, MAX, 0);
    }

    static void promise13IsZeroAfterEachEnd() {
        for (int state = 2; state <= 7; state++) {
            Watched x = Scenes.ended(state);
            Check.run(x, 1, 0);
            Check.run(x, 1000, 0);
            Check.stateIs("then", x, state);
        }
    }

    static void promise13RowsBelow0CountAs0() {
        Watched x = started();
        Check.run(x, -1, 0);
        Check.run(x, -1000, 0);
        Check.run(x, MIN, 0);
        Check.leftIs("then", x, 2, 2);
    }

    static void promise13OfNoRows() {
        Watched x = started();
        Check.run(x, 0, 0);
        Check.leftIs("then", x, 2, 2);
    }

    static void promise13OfOneRow() {
        Watched x = started();
        Check.run(x, 1, 1);
        Check.leftIs("then", x, 1, 2);
    }

    /**
     * No solve has more than 40 * 2 * 12 rows, so from 960 on all numbers of rows are alike: that
     * more than 1000 count as 1000 can only be seen in that they are taken.
     */
    static void promise13RowsAbove1000CountAs1000() {
        for (int rows : new int[] {999, 1000, 1001, MAX - 1, MAX}) {
            Watched x = Check.oneRow(99, 1);
            Check.start(x, 0, 0, 0, 40);
            Check.run(x, rows, 10);
            Check.stateIs("ended", x, 6);
        }
    }

    static void promise13TakesTheLowestWorkerWithARow() {
        Watched x = Check.solver(3, new int[][] {{1, 0, 0}, {0, 2, 0}, {0, 0, 3}});
        Check.loadAll(x, 1000, 2000, 300);
        Check.start(x, 0, 0, 0, 9);
        Check.due("work(1)", x.work(1), 0);
        Check.run(x, 1, 1);
        Check.leftIs("worker 0 had one", x, 0, 0, 1);
        Check.run(x, 1, 1);
        Check.leftIs("worker 2 had one, and the next product begins", x, 1, 1, 1);
        Check.due("count()", x.count(), 1);
    }

    static void promise13PassesByWorkersWithoutRows() {
        Watched x = new Watched(3, 4);
        Check.loadAll(x, 1, 2, 3);
        Check.start(x, 0, 0, 0, 1);
        Check.run(x, 2, 2);
        Check.leftIs("worker 3 has all", x, 0, 0, 0, 1);
    }

    static void promise13GoesOnIntoTheNextProduct() {
        Watched x = started();
        Check.run(x, 5, 5);
        Check.due("count()", x.count(), 1);
        Check.leftIs("in the second product", x, 1, 2);
    }

    static void promise13StopsAtTheEndOfAProduct() {
        Watched x = started();
        Check.run(x, 4, 4);
        Check.due("count()", x.count(), 1);
        Check.leftIs("the second product is begun", x, 2, 2);
    }

    static void promise13GoesOnIntoARecountAndBehindIt() {
        Watched x = Scenes.inARecount();
        Check.run(x, 3, 3);
        Check.due("recounts()", x.recounts(), 1);
        Check.leftIs("in the next iteration", x, 1, 1);
    }

    static void promise13EndsWithTheSolve() {
        Watched x = Check.oneRow(99, 1);
        Check.start(x, 0, 0, 0, 40);
        Check.run(x, 9, 9);
        Check.stateIs("one row is left", x, 1);
        Check.run(x, 9, 1);
        Check.stateIs("ended", x, 6);
        Check.start(x, 0, 0, 0, 40);
        Check.run(x, 10, 10);
        Check.stateIs("ended by just its rows", x, 6);
    }

    // Promise 14: left

    static void promise14IsNoneBeforeAnySolve() {
        Check.leftIs("filled", Scenes.filled(), NONE, NONE);
    }

    static void promise14IsNoneAfterEachEnd() {
        for (int state = 2; state <= 7; state++) {
            Check.leftIs("state " + state, Scenes.ended(state), NONE, NONE);
        }
    }

    static void promise14IsNoneBelowWorker0() {
        Watched x = started();
        Check.due("left(-1)", x.left(-1), NONE);
        Check.due("left(MIN)", x.left(MIN), NONE);
    }

    static void promise14IsNoneAboveTheLastWorker() {
        Watched x = started();
        Check.due("left(1)", x.left(1), 2);
        Check.due("left(2)", x.left(2), NONE);
        Check.due("left(4)", x.left(4), NONE);
        Check.due("left(MAX)", x.left(MAX), NONE);
    }

    static void promise14Is0WhenTheWorkerIsDone() {
        Watched x = started();
        Check.run(x, 2, 2);
        Check.leftIs("worker 0 is done", x, 0, 2);
    }

    static void promise14Is0ForAWorkerWhoNeverHasARow() {
        Watched x = new Watched(3, 4);
        Check.loadAll(x, 1, 2, 3);
        Check.start(x, 0, 0, 0, 1);
        Check.leftIs("no entries", x, 0, 0, 0, 3);
    }

    static void promise14IsAllOfTheRowsForOneWorker() {
        Watched x = new Watched(12, 1);
        Check.loadAll(x, 1);
        Check.start(x, 0, 0, 0, 1);
        Check.leftIs("order 12", x, 12);
    }
}
