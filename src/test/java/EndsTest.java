/** Promises 15 to 19: cancel, state, count, recounts, history, and how a solve ends. */
public final class EndsTest {
    private static final int LARGE = RowTurnSolver.LARGE;
    private static final int NONE = RowTurnSolver.NONE;
    private static final int MIN = Check.MIN;
    private static final int MAX = Check.MAX;

    public static void main(String[] args) {
        Check.runAll(EndsTest.class);
    }

    private static Watched started(int[][] rows, int[] b, int method, int kind, int tolerance, int limit) {
        Watched x = Check.solver(1, rows);
        Check.loadAll(x, b);
        Check.start(x, method, kind, tolerance, limit);
        return x;
    }

    /** By method 0, without preparing. */
    private static Watched started(int[][] rows, int[] b, int tolerance, int limit) {
        return started(rows, b, 0, 0, tolerance, limit);
    }

    // Promise 15: cancel

    static void promise15IsFalseBeforeAnySolve() {
        Watched x = Scenes.filled();
        Check.due("cancel()", x.cancel(), false);
        Check.stateIs("then", x, 0);
    }

    static void promise15IsFalseAfterEachEnd() {
        for (int state = 2; state <= 7; state++) {
            Watched x = Scenes.ended(state);
            Check.due("cancel() in state " + state, x.cancel(), false);
            Check.stateIs("then", x, state);
        }
    }

    static void promise15BeforeTheFirstRow() {
        Watched x = Check.oneRow(2, 10);
        Check.start(x, 0, 0, 0, 9);
        Check.due("cancel()", x.cancel(), true);
        Check.stateIs("then", x, 7);
        Check.solutionIs("then", x, 0);
        Check.residualIs("then", x, 10);
        Check.historyIs("then", x, 10);
    }

    static void promise15InAProduct() {
        Watched x = started(new int[][] {{1, 0}, {0, 3}}, new int[] {100, 100}, 0, 9);
        Check.run(x, 3, 3);
        Check.due("cancel()", x.cancel(), true);
        Check.stateIs("cancelled", x, 7);
        Check.solutionIs("cancelled", x, 50, 50);
        Check.residualIs("cancelled", x, 50, -50);
        Check.historyIs("cancelled", x, 100, 50);
        Check.leftIs("cancelled", x, NONE);
    }

    static void promise15InARecount() {
        Watched x = Scenes.inARecount();
        Check.due("cancel()", x.cancel(), true);
        Check.stateIs("cancelled", x, 7);
        Check.due("recounts()", x.recounts(), 0);
        Check.solutionIs("cancelled", x, 1, 1, 0);
        Check.residualIs("cancelled", x, 3, -2, 0);
        Check.historyIs("cancelled", x, 9, 3);
    }

    static void promise15Twice() {
        Watched x = Check.oneRow(2, 10);
        Check.start(x, 0, 0, 0, 9);
        Check.due("cancel()", x.cancel(), true);
        Check.due("cancel() again", x.cancel(), false);
        Check.stateIs("then", x, 7);
    }

    // Promise 16: state

    static void promise16Is0WhenNoSolveWasStarted() {
        Check.stateIs("new", new Watched(1, 1), 0);
        Check.stateIs("filled", Scenes.filled(), 0);
        Watched x = Check.oneRow(2, 10);
        Check.due("refused start", x.start(3, 0, 0, 1), false);
        Check.stateIs("a start was refused", x, 0);
    }

    static void promise16Is1UnderWay() {
        Check.stateIs("in a product", Scenes.inTheFirstProduct(), 1);
        Check.stateIs("in a recount", Scenes.inARecount(), 1);
    }

    static void promise16StaysWhenTheDataChange() {
        Watched x = Scenes.ended(3);
        Check.due("set", x.set(0, 0, 5), true);
        Check.due("load", x.load(0, 5), true);
        Check.due("guess", x.guess(0, 5), true);
        Check.stateIs("then", x, 3);
    }

    /** A = diag(1, 3), b = (100, 100): r is (50, -50) after the first iteration, and by recount too. */
    static void promise16RecountFollowsWithinTheTolerance() {
        Watched x = started(new int[][] {{1, 0}, {0, 3}}, new int[] {100, 100}, 50, 9);
        Check.run(x, 2, 2);
        Check.stateIs("r is the tolerance", x, 1);
        Check.run(x, 2, 2);
        Check.due("r is the tolerance: recounts()", x.recounts(), 1);
        Check.stateIs("r is the tolerance", x, 2);
        Check.historyIs("r is the tolerance", x, 100, 50);
    }

    static void promise16NoRecountFollowsAboveTheTolerance() {
        Watched x = started(new int[][] {{1, 0}, {0, 3}}, new int[] {100, 100}, 49, 9);
        Check.run(x, 4, 4);
        Check.due("r is one above the tolerance: recounts()", x.recounts(), 0);
        Check.due("r is one above the tolerance: count()", x.count(), 2);
    }

    /** A = (5 -1; -1 8), b = (9, 8): r is (3, -2) after the first iteration, by recount (5, 1). */
    static void promise16ConvergesWhenTheRecountIsWithinTheTolerance() {
        Watched x = started(new int[][] {{5, -1}, {-1, 8}}, new int[] {9, 8}, 5, 9);
        Check.run(x, 1000, 4);
        Check.stateIs("the recount finds the tolerance", x, 2);
        Check.residualIs("the recount finds the tolerance", x, 5, 1);
        Check.historyIs("the recount finds the tolerance", x, 9, 5);
    }

    /** r is (3, -2) and by recount (5, 1), both below 8. */
    static void promise16ConvergesBelowTheTolerance() {
        Watched x = started(new int[][] {{5, -1}, {-1, 8}}, new int[] {9, 8}, 8, 9);
        Check.run(x, 1000, 4);
        Check.stateIs("below the tolerance", x, 2);
        Check.historyIs("below the tolerance", x, 9, 5);
        Check.start(x, 0, 0, 8, 9);
        Check.stateIs("at once", x, 2);
        Check.historyIs("at once", x, 5);
    }

    static void promise16GoesOnWhenTheRecountIsAboveTheTolerance() {
        Watched x = started(new int[][] {{5, -1}, {-1, 8}}, new int[] {9, 8}, 4, 9);
        Check.run(x, 4, 4);
        Check.stateIs("the recount finds one more", x, 1);
        Check.due("the recount finds one more: recounts()", x.recounts(), 1);
        Check.historyIs("the recount finds one more", x, 9, 5);
        Check.leftIs("the recount finds one more", x, 2);
    }

    static void promise16ConvergedComesBeforeTheLimit() {
        Watched x = started(new int[][] {{2}}, new int[] {10}, 0, 1);
        Check.run(x, 1, 1);
        Check.stateIs("the recount comes before the limit", x, 1);
        Check.run(x, 1, 1);
        Check.stateIs("converged at its limit", x, 2);
        Check.solutionIs("converged at its limit", x, 5);
    }

    static void promise16LimitComesAfterTheRecount() {
        Watched x = started(new int[][] {{5, -1}, {-1, 8}}, new int[] {9, 8}, 3, 1);
        Check.run(x, 1000, 4);
        Check.stateIs("the recount was in vain", x, 3);
        Check.due("recounts()", x.recounts(), 1);
        Check.historyIs("the recount was in vain", x, 9, 5);
    }

    static void promise16LimitOf1() {
        Watched x = started(new int[][] {{1, 0}, {0, 3}}, new int[] {100, 100}, 0, 1);
        Check.run(x, 1, 1);
        Check.stateIs("before", x, 1);
        Check.run(x, 1000, 1);
        Check.stateIs("limit", x, 3);
        Check.historyIs("limit", x, 100, 50);
    }

    static void promise16LimitIsReachedNotPassed() {
        Watched x = started(new int[][] {{1, 0}, {0, 3}}, new int[] {100, 100}, 0, 3);
        Check.run(x, 4, 4);
        Check.stateIs("one less than the limit", x, 1);
        Check.run(x, 1000, 2);
        Check.stateIs("the limit", x, 3);
        Check.due("count()", x.count(), 3);
    }

    /** Steepest descent at its slowest: r goes down by about 19/21 an iteration, 40 times. */
    static void promise16LimitOf40() {
        Watched x = started(new int[][] {{1, 0}, {0, 20}}, new int[] {20000, 20000}, 0, 40);
        Check.run(x, 78, 78);
        Check.stateIs("one less than the limit", x, 1);
        Check.run(x, 1000, 2);
        Check.stateIs("the limit", x, 3);
        Check.due("count()", x.count(), 40);
        for (int k = 1; k <= 40; k++) {
            long former = x.history(k - 1);
            boolean asDue = Math.abs(x.history(k) - former * 19 / 21) <= former / 100;
            Check.due("history(" + k + ") is about 19/21 of the one before", asDue, true);
        }
        Check.due("history(41)", x.history(41), NONE);
    }

    /** r = p = 1, and q = D is the entry. */
    static void promise16BrokenWhenDIsNotAbove0() {
        int[] entries = {1, 0, -1, -99};
        for (int a : entries) {
            for (int method = 0; method <= 1; method++) {
                Watched x = started(new int[][] {{a}}, new int[] {1}, method, 0, 0, 9);
                Check.run(x, 1, 1);
                Check.stateIs("D is " + a, x, a > 0 ? 1 : 4);
                Check.due("D is " + a + ": count()", x.count(), a > 0 ? 1 : 0);
            }
        }
    }

    /** The DOT of (1, 1) and (1 + v, -1). */
    static void promise16BrokenWhenDIs0() {
        for (int v = -1; v <= 1; v++) {
            Watched x = started(new int[][] {{1, v}, {0, -1}}, new int[] {1, 1}, 0, 9);
            Check.run(x, 2, 2);
            Check.stateIs("D is " + v, x, v > 0 ? 1 : 4);
        }
    }

    static void promise16BrokenWhenDOfMethod2Is0() {
        Watched x = started(new int[][] {{1, -1}, {-1, 1}}, new int[] {5, 5}, 2, 0, 0, 9);
        Check.run(x, 2, 2);
        Check.stateIs("q is 0", x, 4);
    }

    /** Kind 2 leaves z at 0 over a diagonal of 0, so R is 0. */
    static void promise16BrokenWhenNIs0() {
        Watched x = started(new int[][] {{0, 1}, {1, 0}}, new int[] {4, 6}, 0, 2, 0, 9);
        Check.run(x, 2, 2);
        Check.stateIs("z is 0", x, 4);
        Check.solutionIs("z is 0", x, 0, 0);
        Check.residualIs("z is 0", x, 4, 6);
    }

    /** N is the DOT of (1, 1) and (1 + v, -1), D is above 0. */
    static void promise16BrokenWhenNOfMethod2Is0() {
        for (int v = -1; v <= 1; v++) {
            Watched x = started(new int[][] {{1, v}, {-1, 0}}, new int[] {1, 1}, 2, 0, 0, 9);
            Check.run(x, 2, 2);
            Check.stateIs("N is " + v, x, v == 0 ? 4 : 1);
        }
    }

    static void promise16NBelow0DoesNotEndMethod2() {
        Watched x = started(new int[][] {{-3}}, new int[] {6}, 2, 0, 0, 9);
        Check.run(x, 1000, 2);
        Check.stateIs("N is -108", x, 2);
        Check.solutionIs("N is -108", x, -2);
    }

    /** z = (-16, -16), R = -32, q = (-64, -64), D = 2048: r = (1 - 1, 1 - 1), by recount (1, 1). */
    static void promise16NBelow0DoesNotEndMethod0() {
        Watched x = started(new int[][] {{-1, 5}, {5, -1}}, new int[] {1, 1}, 0, 1, 0, 9);
        Check.run(x, 2, 2);
        Check.stateIs("R is -32", x, 1);
        Check.historyIs("R is -32", x, 1, 0);
        Check.solutionIs("R is -32", x, 0, 0);
    }

    /** A = (1 2; -2 -1), b = (1, 0): r = (0, 2) after the first iteration; then D = -4. */
    static void promise16BrokenChangesNothingElse() {
        Watched x = started(new int[][] {{1, 2}, {-2, -1}}, new int[] {1, 0}, 0, 9);
        Check.run(x, 3, 3);
        Check.stateIs("before the last row", x, 1);
        Check.run(x, 1, 1);
        Check.stateIs("broken", x, 4);
        Check.solutionIs("broken", x, 1, 0);
        Check.residualIs("broken", x, 0, 2);
        Check.historyIs("broken", x, 1, 2);
        Check.due("recounts()", x.recounts(), 0);
    }

    /** At its limit of 1 it has no first iteration: BROKEN, not LIMIT. */
    static void promise16BrokenIsNotCounted() {
        Watched x = started(new int[][] {{-3}}, new int[] {5}, 0, 1);
        Check.run(x, 1000, 1);
        Check.stateIs("broken", x, 4);
        Check.historyIs("broken", x, 5);
    }

    /** A = (1 v; -v 1), b = (1, 0): r = p = (1, 0), q = (1, -v), N = D = 1, r = (0, v). */
    private static Watched turning(int v, int limit) {
        return started(new int[][] {{1, v}, {-v, 1}}, new int[] {1, 0}, 0, limit);
    }

    static void promise16DivergedAbove16Times() {
        Watched x = turning(17, 9);
        Check.run(x, 1000, 2);
        Check.stateIs("17 times", x, 5);
        Check.historyIs("17 times", x, 1, 17);
        Check.residualIs("17 times", x, 0, 17);
        Check.solutionIs("17 times", x, 1, 0);
    }

    static void promise16NotDivergedBy16Times() {
        Watched x = turning(16, 9);
        Check.run(x, 2, 2);
        Check.stateIs("16 times", x, 1);
        Check.historyIs("16 times", x, 1, 16);
        // The second is 16 times the first, but history 0 is what counts.
        Check.run(x, 1000, 2);
        Check.stateIs("256 times", x, 5);
        Check.historyIs("256 times", x, 1, 16, 256);
    }

    /**
     * A = (2 0; v -2v), b = (2, 0), method 2, kind 3: z = p = (16, 8), q = (32, 0), N/D = 64/1024,
     * x = (1, 0), r = (0, 0); the recount finds r = (0, -v).
     */
    private static void recountFinds(int v, int limit, int state) {
        Watched x = started(new int[][] {{2, 0}, {v, -2 * v}}, new int[] {2, 0}, 2, 3, 1, limit);
        Check.run(x, 4, 4);
        Check.stateIs("the recount finds " + v + " after 2", x, state);
        Check.due("recounts()", x.recounts(), 1);
        Check.historyIs("the recount finds " + v + " after 2", x, 2, v);
        Check.residualIs("the recount finds " + v + " after 2", x, 0, -v);
    }

    static void promise16DivergedByARecount() {
        recountFinds(33, 9, 5);
        recountFinds(33, 1, 5);
    }

    static void promise16NotDivergedByARecountOf16Times() {
        recountFinds(32, 9, 1);
        recountFinds(32, 1, 3);
    }

    static void promise16DivergedComesBeforeTheLimit() {
        Watched x = turning(17, 1);
        Check.run(x, 1000, 2);
        Check.stateIs("at its limit", x, 5);
        Watched y = turning(16, 1);
        Check.run(y, 1000, 2);
        Check.stateIs("16 times, at its limit", y, 3);
    }

    /** 1, 2, 4, 8, 16, 32: the least of the latest five is 2 by then. */
    static void promise16DivergedComesBeforeStalled() {
        Watched x = turning(2, 9);
        Check.run(x, 1000, 10);
        Check.stateIs("32 times at the fifth", x, 5);
        Check.historyIs("32 times at the fifth", x, 1, 2, 4, 8, 16, 32);
        Watched y = turning(2, 5);
        Check.run(y, 1000, 10);
        Check.stateIs("at its limit too", y, 5);
    }

    static void promise16StalledAtTheFifthAtTheEarliest() {
        Watched x = turning(1, 9);
        Check.run(x, 8, 8);
        Check.stateIs("four iterations", x, 1);
        Check.run(x, 1000, 2);
        Check.stateIs("five iterations", x, 6);
        Check.historyIs("five iterations", x, 1, 1, 1, 1, 1, 1);
    }

    static void promise16StalledComesBeforeTheLimit() {
        Watched x = turning(1, 5);
        Check.run(x, 1000, 10);
        Check.stateIs("at its limit", x, 6);
        Watched y = turning(1, 4);
        Check.run(y, 1000, 8);
        Check.stateIs("too early to stall", y, 3);
    }

    /**
     * A = (2 0; 1 0), b = (1, 2): r is (1, 2), then (-1, 1) and (3, 3) in turns. At the fifth the
     * least of the latest five is one less than 2; at the sixth it is just as little as the 1 before.
     */
    static void promise16NotStalledWhenOneLess() {
        Watched x = started(new int[][] {{2, 0}, {1, 0}}, new int[] {1, 2}, 0, 9);
        Check.run(x, 10, 10);
        Check.stateIs("one less", x, 1);
        Check.historyIs("one less", x, 2, 1, 3, 1, 3, 1);
        Check.run(x, 1000, 2);
        Check.stateIs("as little", x, 6);
        Check.historyIs("as little", x, 2, 1, 3, 1, 3, 1, 3);
    }

    /**
     * a = 99, b = 100: x = 1 by the first iteration, r = 1 by recount, and again and again. At the
     * fifth, 100 alone stands before the latest five.
     */
    static void promise16StalledLooksAtTheLatestFive() {
        Watched x = started(new int[][] {{99}}, new int[] {100}, 0, 9);
        Check.run(x, 10, 10);
        Check.stateIs("five iterations", x, 1);
        Check.historyIs("five iterations", x, 100, 1, 1, 1, 1, 1);
        Check.run(x, 1000, 2);
        Check.stateIs("six iterations", x, 6);
        Check.historyIs("six iterations", x, 100, 1, 1, 1, 1, 1, 1);
    }

    private static void goesTo(int state, int[][] rows, int[] b, int... history) {
        Watched x = started(rows, b, 0, 40);
        x.run(1000);
        Check.stateIs("history 0 is " + history[0], x, state);
        Check.historyIs("history 0 is " + history[0], x, history);
    }

    static void promise16StalledWhenAllOfTheLatestFiveAreMore() {
        goesTo(6, new int[][] {{1, 1}, {-2, 1}}, new int[] {1, 0}, 1, 2, 2, 4, 4, 8);
    }

    /** At the fifth, one of the latest five alone is less: the first, the second, and so on. */
    static void promise16NotStalledWhenOneOfTheLatestFiveIsLess() {
        goesTo(6, new int[][] {{1, 0}, {0, 3}}, new int[] {1, 2}, 2, 1, 2, 2, 2, 2, 2);
        goesTo(6, new int[][] {{1, 0}, {-2, 3}}, new int[] {2, 1}, 2, 2, 1, 2, 2, 2, 2, 2);
        goesTo(5, new int[][] {{1, 0}, {2, 1}}, new int[] {4, 1}, 4, 5, 4, 3, 24, 17, 195);
        goesTo(2, new int[][] {{1, 0}, {-2, 1}}, new int[] {2, 1}, 2, 16, 4, 14, 1, 2, 0);
        goesTo(6, new int[][] {{2, -1}, {3, 2}}, new int[] {5, 1}, 5, 6, 5, 5, 6, 4, 8, 6, 12, 8, 17);
    }

    /** When it stalls, the last of all before the latest five alone is as little as the least of these. */
    static void promise16StalledLooksAtAllBeforeTheLatestFive() {
        goesTo(6, new int[][] {{2, 0}, {0, 0}}, new int[] {3, 0}, 3, 1, 1, 1, 1, 1, 1);
        goesTo(6, new int[][] {{2, 0}, {-1, 0}}, new int[] {2, 1}, 2, 2, 1, 3, 1, 3, 1, 3);
        goesTo(6, new int[][] {{3, 0}, {-2, 0}}, new int[] {4, 1}, 4, 4, 3, 3, 2, 3, 2, 3, 2, 3);
    }

    /** a = 99, b = 1: the step of x is 1/99, dropped, so every recount finds r = 1 again. */
    static void promise16StalledByRecounts() {
        Watched x = started(new int[][] {{99}}, new int[] {1}, 0, 5);
        Check.run(x, 1000, 10);
        Check.stateIs("stalled", x, 6);
        Check.due("recounts()", x.recounts(), 5);
        Check.historyIs("stalled", x, 1, 1, 1, 1, 1, 1);
    }

    // Promise 17: count

    static void promise17Is0WhenNoneWasStarted() {
        Check.due("new", new Watched(3, 1).count(), 0);
        Check.due("filled", Scenes.filled().count(), 0);
    }

    static void promise17GrowsWithTheLastRow() {
        Watched x = started(new int[][] {{1, 0}, {0, 3}}, new int[] {100, 100}, 0, 9);
        int[] due = {0, 0, 1, 1, 2, 2, 3};
        for (int rows = 0; rows < due.length; rows++) {
            Check.due("after " + rows + " rows: count()", x.count(), due[rows]);
            Check.run(x, 1, 1);
        }
    }

    static void promise17DoesNotGrowWithARecount() {
        Watched x = Check.oneRow(2, 10);
        Check.start(x, 0, 0, 0, 9);
        Check.run(x, 1, 1);
        Check.due("count()", x.count(), 1);
        Check.run(x, 1, 1);
        Check.due("count() after the recount", x.count(), 1);
    }

    static void promise17IsThatOfTheLatestSolve() {
        Watched x = Scenes.ended(6);
        Check.due("count()", x.count(), 5);
        Check.due("refused start", x.start(0, 0, 0, 41), false);
        Check.due("after a refused start: count()", x.count(), 5);
        Check.start(x, 0, 0, LARGE, 1);
        Check.due("after a start: count()", x.count(), 0);
    }

    // Promise 18: recounts

    static void promise18Is0WhenNoneWasStarted() {
        Check.due("new", new Watched(3, 1).recounts(), 0);
        Check.due("filled", Scenes.filled().recounts(), 0);
    }

    static void promise18CountsOnlyThoseDoneToTheirEnd() {
        Watched x = Scenes.inARecount();
        Check.due("begun: recounts()", x.recounts(), 0);
        Check.run(x, 1, 1);
        Check.due("all but the last row: recounts()", x.recounts(), 0);
        Check.run(x, 1, 1);
        Check.due("done: recounts()", x.recounts(), 1);
    }

    static void promise18DoesNotCountACancelledOne() {
        Watched x = Scenes.inARecount();
        Check.due("cancel()", x.cancel(), true);
        Check.due("recounts()", x.recounts(), 0);
    }

    static void promise18IsThatOfTheLatestSolve() {
        Watched x = Scenes.ended(2);
        Check.due("recounts()", x.recounts(), 1);
        Check.due("refused start", x.start(0, 0, 0, 0), false);
        Check.due("after a refused start: recounts()", x.recounts(), 1);
        Check.start(x, 0, 0, LARGE, 1);
        Check.due("after a start: recounts()", x.recounts(), 0);
    }

    // Promise 19: history

    static void promise19IsNoneWhenNoneWasStarted() {
        Watched x = Scenes.filled();
        Check.due("history(0)", x.history(0), NONE);
        Check.due("history(1)", x.history(1), NONE);
        Check.due("history(-1)", x.history(-1), NONE);
        Check.due("refused start", x.start(0, 0, 0, 0), false);
        Check.due("after a refused start: history(0)", x.history(0), NONE);
    }

    static void promise19IsNoneBelow0() {
        Watched x = Scenes.ended(6);
        Check.due("history(-1)", x.history(-1), NONE);
        Check.due("history(MIN)", x.history(MIN), NONE);
    }

    static void promise19IsNoneAboveTheCount() {
        Watched x = Scenes.ended(6);
        Check.due("history(5)", x.history(5), 1);
        Check.due("history(6)", x.history(6), NONE);
        Check.due("history(40)", x.history(40), NONE);
        Check.due("history(41)", x.history(41), NONE);
        Check.due("history(MAX)", x.history(MAX), NONE);
    }

    static void promise19OfASolveThatEndedAtOnce() {
        Watched x = new Watched(2, 1);
        Check.start(x, 0, 0, 0, 1);
        Check.historyIs("r is 0", x, 0);
    }

    static void promise19IsNoneWhereAFormerSolveWas() {
        Watched x = Scenes.ended(5);
        Check.historyIs("the former", x, 1, 2, 4, 8, 16, 32);
        Check.start(x, 0, 0, LARGE, 9);
        Check.due("history(1)", x.history(1), NONE);
        Check.due("history(5)", x.history(5), NONE);
    }

    static void promise19SizeIsTheGreatestAbsoluteValue() {
        int[][] vectors = {{3, -7, 5}, {-7, 3, 5}, {3, 5, -7}, {7, -3, -5}, {0, 0, 7}, {-7, -7, -7}};
        for (int[] b : vectors) {
            Watched x = new Watched(3, 1);
            Check.loadAll(x, b);
            Check.start(x, 0, 0, LARGE, 1);
            Check.historyIs("b", x, 7);
        }
    }

    static void promise19SizeOfTheLargest() {
        Watched x = new Watched(2, 1);
        Check.loadAll(x, -LARGE, LARGE - 1);
        Check.start(x, 0, 0, LARGE, 1);
        Check.historyIs("-LARGE", x, LARGE);
    }

    static void promise19SizeTakesTheLastComponent() {
        Watched x = new Watched(12, 1);
        Check.due("load(11, -9)", x.load(11, -9), true);
        Check.start(x, 0, 0, LARGE, 1);
        Check.historyIs("component 11", x, 9);
    }

    /** A recount puts what it finds in place of the former. */
    static void promise19RecountTakesTheFormersPlace() {
        Watched x = Scenes.inARecount();
        Check.historyIs("in the recount", x, 9, 3);
        Check.run(x, 2, 2);
        Check.historyIs("after the recount", x, 9, 5);
    }
}
