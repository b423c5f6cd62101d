/** Promises 7 to 10: bound, levels, entry, group. */
public final class LevelsTest {
    private static final int NONE = RowTurnSolver.NONE;

    public static void main(String[] args) {
        boundsFollowTheFilledEntries();
        boundsWithoutEntries();
        boundsFollowThePresentMatrix();
        fewPointsHaveOneLevel();
        withoutNegativeEntriesOneLevel();
        chainOfFour();
        leaningBeginsAtAQuarter();
        equalEntriesJoinTheLowest();
        strongerEntryIsJoined();
        pointsMayJoinNone();
        passedWeightDecides();
        secondLevelNeedsThreePoints();
        threeLevels();
        levelsFollowThePresentMatrix();
        Check.end();
    }

    private static void boundsAre(String of, RowTurnSolver x, int... bounds) {
        for (int k = 0; k < bounds.length; k++) {
            Check.due(of + ": bound(" + k + ")", x.bound(k), bounds[k]);
        }
        Check.due(of + ": bound(-1)", x.bound(-1), NONE);
        Check.due(of + ": bound(w + 1)", x.bound(bounds.length), NONE);
        Check.due(of + ": bound(MAX)", x.bound(Integer.MAX_VALUE), NONE);
        Check.due(of + ": bound(MIN)", x.bound(Integer.MIN_VALUE), NONE);
    }

    /** An object whose row i has filled[i] entries that are not 0. */
    private static RowTurnSolver filled(int workers, int... filled) {
        int[][] rows = new int[filled.length][filled.length];
        for (int i = 0; i < filled.length; i++) {
            for (int j = 0; j < filled[i]; j++) {
                rows[i][filled.length - 1 - j] = j % 2 == 0 ? -1 : 99;
            }
        }
        return Check.solver(workers, rows);
    }

    private static void boundsFollowTheFilledEntries() {
        boundsAre("4 0 0 4", filled(4, 4, 0, 0, 4), 0, 1, 1, 4, 4);
        boundsAre("0 0 2 2", filled(2, 0, 0, 2, 2), 0, 3, 4);
        boundsAre("2 0 0 0", filled(2, 2, 0, 0, 0), 0, 1, 4);
        boundsAre("1 1 1 1 1", filled(3, 1, 1, 1, 1, 1), 0, 2, 4, 5);
        boundsAre("1 2 3 by two", filled(2, 1, 2, 3), 0, 2, 3);
        boundsAre("1 1 3 by two", filled(2, 1, 1, 3), 0, 3, 3);
        boundsAre("one worker", filled(1, 3, 2, 1), 0, 3);
        boundsAre("all filled", filled(4, 5, 5, 5, 5, 5), 0, 2, 3, 4, 5);
    }

    private static void boundsWithoutEntries() {
        boundsAre("empty by four", new RowTurnSolver(7, 4), 0, 0, 0, 0, 7);
        boundsAre("empty by one", new RowTurnSolver(7, 1), 0, 7);
    }

    private static void boundsFollowThePresentMatrix() {
        RowTurnSolver x = filled(2, 0, 2, 2, 0);
        boundsAre("before", x, 0, 2, 4);
        Check.due("set(3, 0, 1)", x.set(3, 0, 1), true);
        boundsAre("an entry more", x, 0, 3, 4);
        Check.due("set(3, 0, 0)", x.set(3, 0, 0), true);
        boundsAre("an entry less", x, 0, 2, 4);
    }

    private static void fewPointsHaveOneLevel() {
        RowTurnSolver x = Check.solver(1, new int[][] {{2, -1}, {-1, 2}});
        Check.due("order 2: levels()", x.levels(), 1);
        Check.groupsAre(x, 0, NONE, NONE);
        Check.levelIs(x, 0, new int[][] {{2, -1}, {-1, 2}});
        Check.levelIs(x, 1, new int[2][2]);
        Check.levelIs(x, -1, new int[2][2]);
        RowTurnSolver one = Check.solver(1, new int[][] {{-5}});
        Check.due("order 1: levels()", one.levels(), 1);
        Check.groupsAre(one, 0, NONE);
        Check.levelIs(one, 0, new int[][] {{-5}});
    }

    private static void withoutNegativeEntriesOneLevel() {
        int[][] rows = {{-9, 1, 2}, {0, -9, 3}, {4, 0, -9}};
        RowTurnSolver x = Check.solver(1, rows);
        Check.due("no point leans: levels()", x.levels(), 1);
        Check.groupsAre(x, 0, NONE, NONE, NONE);
        Check.levelIs(x, 0, rows);
        Check.levelIs(x, 1, new int[3][3]);
    }

    private static void chainOfFour() {
        RowTurnSolver x = Check.solver(2, Check.chain(4, 20, -10));
        Check.due("chain: levels()", x.levels(), 2);
        Check.groupsAre(x, 0, 0, 0, 0, 1);
        Check.groupsAre(x, 1, NONE, NONE);
        Check.groupsAre(x, 2, NONE);
        Check.groupsAre(x, -1, NONE);
        Check.levelIs(x, 0, Check.chain(4, 20, -10));
        Check.levelIs(x, 1, new int[][] {{20, -10}, {-10, 20}});
        Check.levelIs(x, 2, new int[2][2]);
        Check.levelIs(x, 3, new int[2][2]);
        Check.levelIs(x, Integer.MAX_VALUE, new int[2][2]);
        Check.levelIs(x, Integer.MIN_VALUE, new int[2][2]);
        Check.due("group(MAX, 0)", x.group(Integer.MAX_VALUE, 0), NONE);
        Check.due("group(MIN, 0)", x.group(Integer.MIN_VALUE, 0), NONE);
        Check.due("group(0, MAX)", x.group(0, Integer.MAX_VALUE), NONE);
        Check.due("group(0, MIN)", x.group(0, Integer.MIN_VALUE), NONE);
    }

    private static void leaningBeginsAtAQuarter() {
        RowTurnSolver quarter = Check.solver(1, new int[][] {{9, -8, -2}, {0, 9, 0}, {0, 0, 9}});
        Check.due("a quarter: levels()", quarter.levels(), 2);
        Check.groupsAre(quarter, 0, 0, 0, 1);
        Check.levelIs(quarter, 1, new int[][] {{10, -2}, {0, 9}});
        RowTurnSolver less = Check.solver(1, new int[][] {{9, -9, -2}, {0, 9, 0}, {0, 0, 9}});
        Check.due("less than a quarter: levels()", less.levels(), 2);
        Check.groupsAre(less, 0, 0, 0, NONE);
        Check.levelIs(less, 1, new int[][] {{9}});
        RowTurnSolver diagonal = Check.solver(1, new int[][] {{-99, -8, -2}, {0, 9, 0}, {0, 0, 9}});
        Check.groupsAre(diagonal, 0, 0, 0, 1);
    }

    private static void equalEntriesJoinTheLowest() {
        RowTurnSolver x = Check.solver(1, new int[][] {{9, 0, 0}, {-5, 9, -5}, {0, 0, 9}});
        Check.groupsAre(x, 0, 0, 0, 1);
        Check.levelIs(x, 1, new int[][] {{13, -5}, {0, 9}});
    }

    private static void strongerEntryIsJoined() {
        RowTurnSolver x = Check.solver(1, new int[][] {{9, 0, 0}, {-5, 9, -6}, {0, 0, 9}});
        Check.groupsAre(x, 0, 0, 1, 1);
        Check.levelIs(x, 1, new int[][] {{9, 0}, {-5, 12}});
    }

    private static void pointsMayJoinNone() {
        int[][] rows = {{7, 3, 3, 3}, {2, 9, 0, -4}, {1, 1, 5, 1}, {1, 0, 0, 8}};
        RowTurnSolver x = Check.solver(1, rows);
        Check.due("two apart: levels()", x.levels(), 2);
        Check.groupsAre(x, 0, NONE, 0, NONE, 0);
        Check.levelIs(x, 1, new int[][] {{13}});
    }

    /**
     * Points 2 and 4 have the same weight at first; 3, tied to 1, leans on 4, which is then
     * chosen before 2, so that 2, leaning on 4, is tied.
     */
    private static void passedWeightDecides() {
        int[][] rows = new int[6][6];
        rows[0][1] = -1;
        rows[3][1] = -4;
        rows[3][4] = -1;
        rows[2][4] = -1;
        rows[5][2] = -1;
        rows[4][2] = -1;
        rows[2][2] = 50;
        RowTurnSolver x = Check.solver(1, rows);
        // Weights at first: 1: 2 (of 0 and 3), 2: 2 (of 5 and 4), 4: 2 (of 3 and 2).
        // 1 is chosen; 0 and 3 are tied; 4 gets a third; 4 is chosen, 2 is tied to it.
        Check.groupsAre(x, 0, 0, 0, 1, 0, 1, NONE);
        Check.due("passed weight: levels()", x.levels(), 2);
        Check.levelIs(x, 1, new int[][] {{-5, -1}, {0, 48}});
    }

    private static void secondLevelNeedsThreePoints() {
        RowTurnSolver x = Check.solver(1, Check.chain(5, 20, -10));
        Check.due("chain of 5: levels()", x.levels(), 2);
        Check.groupsAre(x, 0, 0, 0, 0, 1, 1);
        Check.groupsAre(x, 1, NONE, NONE);
        Check.levelIs(x, 1, new int[][] {{20, -10}, {-10, 20}});
    }

    private static void threeLevels() {
        RowTurnSolver x = Check.solver(1, Check.chain(12, 20, -10));
        Check.due("chain of 12: levels()", x.levels(), 3);
        Check.groupsAre(x, 0, 0, 0, 0, 1, 1, 2, 2, 3, 3, 4, 4, 5);
        Check.levelIs(x, 1, Check.chain(6, 20, -10));
        Check.groupsAre(x, 1, 0, 0, 0, 1, 1, 2);
        Check.levelIs(x, 2, Check.chain(3, 20, -10));
        Check.groupsAre(x, 2, NONE, NONE, NONE);
        Check.levelIs(x, 3, new int[3][3]);
    }

    private static void levelsFollowThePresentMatrix() {
        RowTurnSolver x = Check.solver(1, Check.chain(12, 20, -10));
        Check.due("before: levels()", x.levels(), 3);
        for (int i = 1; i < 12; i++) {
            Check.due("set", x.set(i, i - 1, 0), true);
            Check.due("set", x.set(i - 1, i, 0), true);
        }
        Check.due("no point leans any more: levels()", x.levels(), 1);
        Check.groupsAre(x, 0, NONE, NONE, NONE, NONE, NONE, NONE, NONE, NONE, NONE, NONE, NONE, NONE);
        Check.due("set", x.set(5, 6, -1), true);
        Check.due("group asked first", x.group(0, 5), 0);
        Check.due("one point leans: levels()", x.levels(), 2);
        Check.levelIs(x, 1, new int[][] {{39}});
        Check.due("set", x.set(6, 6, -20), true);
        Check.due("entry asked first", x.entry(1, 0, 0), -1);
    }
}
