/** Promises 8 to 10: levels, entry, group, and LEVELS in the terms. */
public final class LevelsTest {
    private static final int NONE = RowTurnSolver.NONE;
    private static final int MIN = Check.MIN;
    private static final int MAX = Check.MAX;

    public static void main(String[] args) {
        Check.runAll(LevelsTest.class);
    }

    private static void levelsAre(String of, int[][] rows, int levels) {
        Check.due(of + ": levels()", Check.solver(1, rows).levels(), levels);
    }

    // Promise 8: when a further level follows

    static void promise8OrderBelow3HasOneLevel() {
        levelsAre("order 1", new int[][] {{-5}}, 1);
        levelsAre("order 2", new int[][] {{2, -1}, {-1, 2}}, 1);
    }

    static void promise8Order3HasTwoLevels() {
        levelsAre("order 3", Check.chain(3, 20, -10), 2);
        levelsAre("one entry below 0", new int[][] {{0, 0, 0}, {0, 0, 0}, {-1, 0, 0}}, 2);
    }

    static void promise8WithoutAChosenPointOneLevel() {
        levelsAre("all 0", new int[3][3], 1);
        levelsAre("only the diagonal below 0", new int[][] {{-9, 1, 2}, {0, -9, 3}, {4, 0, -9}}, 1);
        levelsAre("of order 12", Check.chain(12, -9, 1), 1);
    }

    static void promise8SecondLevelOfOrder2HasNoFurther() {
        Watched x = Check.solver(1, Check.chain(5, 20, -10));
        Check.due("levels()", x.levels(), 2);
        Check.levelIs(x, 1, new int[][] {{20, -10}, {-10, 20}});
        Check.groupsAre(x, 1, NONE, NONE);
        Check.due("entry(2, 0, 0)", x.entry(2, 0, 0), 0);
    }

    /** Groups {0, 1, 2}, {3, 4}, {5}: a chain of 6 has a second level of order 3. */
    static void promise8SecondLevelOfOrder3HasAFurther() {
        Watched x = Check.solver(1, Check.chain(6, 20, -10));
        Check.due("levels()", x.levels(), 3);
        Check.groupsAre(x, 0, 0, 0, 0, 1, 1, 2);
        Check.levelIs(x, 1, Check.chain(3, 20, -10));
        Check.groupsAre(x, 1, 0, 0, 0);
        Check.levelIs(x, 2, new int[][] {{20}});
    }

    /** Three pairs without an entry between them: the second level is a diagonal of order 3. */
    static void promise8SecondLevelWithoutAChosenPointHasNoFurther() {
        int[][] rows = new int[6][6];
        for (int i = 0; i < 6; i += 2) {
            rows[i][i] = 7;
            rows[i + 1][i] = -3;
            rows[i + 1][i + 1] = 8;
        }
        Watched x = Check.solver(1, rows);
        Check.due("levels()", x.levels(), 2);
        Check.levelIs(x, 1, new int[][] {{12, 0, 0}, {0, 12, 0}, {0, 0, 12}});
        Check.groupsAre(x, 1, NONE, NONE, NONE);
    }

    static void promise8ThirdLevelHasNoFurther() {
        Watched x = Check.solver(1, Check.chain(12, 20, -10));
        Check.due("levels()", x.levels(), 3);
        Check.groupsAre(x, 0, 0, 0, 0, 1, 1, 2, 2, 3, 3, 4, 4, 5);
        Check.levelIs(x, 1, Check.chain(6, 20, -10));
        Check.groupsAre(x, 1, 0, 0, 0, 1, 1, 2);
        Check.levelIs(x, 2, Check.chain(3, 20, -10));
        Check.groupsAre(x, 2, NONE, NONE, NONE);
        Check.due("entry(3, 0, 0)", x.entry(3, 0, 0), 0);
    }

    static void promise8FollowsThePresentA() {
        Watched x = Check.solver(1, Check.chain(12, 20, -10));
        Check.due("before: levels()", x.levels(), 3);
        for (int i = 1; i < 12; i++) {
            Check.due("set", x.set(i, i - 1, 0), true);
            Check.due("set", x.set(i - 1, i, 0), true);
        }
        Check.due("no point leans any more: levels()", x.levels(), 1);
        Check.groupsAre(x, 0, NONE, NONE, NONE, NONE, NONE, NONE, NONE, NONE, NONE, NONE, NONE, NONE);
        Check.due("set", x.set(5, 6, -1), true);
        Check.due("one point leans: levels()", x.levels(), 2);
        Check.due("a refused set", x.set(5, 6, -100), false);
        Check.due("then levels()", x.levels(), 2);
    }

    // Promise 9: entry

    static void promise9EntriesOfLevel0AreThoseOfA() {
        int[][] rows = new int[12][12];
        for (int i = 0; i < 12; i++) {
            for (int j = 0; j < 12; j++) {
                rows[i][j] = 99 - 16 * i - j;
            }
        }
        Check.levelIs(Check.solver(1, rows), 0, rows);
    }

    static void promise9IsZeroBelowLevel0() {
        Watched x = Check.solver(1, Check.chain(12, 20, -10));
        Check.due("entry(-1, 0, 0)", x.entry(-1, 0, 0), 0);
        Check.due("entry(MIN, 0, 0)", x.entry(MIN, 0, 0), 0);
    }

    static void promise9IsZeroAboveTheLastLevel() {
        Watched x = Check.solver(1, Check.chain(12, 20, -10));
        Check.due("entry(2, 0, 0)", x.entry(2, 0, 0), 20);
        Check.due("entry(3, 0, 0)", x.entry(3, 0, 0), 0);
        Check.due("entry(MAX, 0, 0)", x.entry(MAX, 0, 0), 0);
        Watched y = Check.solver(1, Check.chain(4, 20, -10));
        Check.due("entry(1, 0, 0) of two levels", y.entry(1, 0, 0), 20);
        Check.due("entry(2, 0, 0) of two levels", y.entry(2, 0, 0), 0);
        Watched z = Check.solver(1, Check.chain(2, 20, -10));
        Check.due("entry(0, 0, 0) of one level", z.entry(0, 0, 0), 20);
        Check.due("entry(1, 0, 0) of one level", z.entry(1, 0, 0), 0);
    }

    /** The levels of a chain of 12 have the orders 12, 6 and 3. */
    static void promise9IsZeroOutsideTheLevelsRows() {
        int[] orders = {12, 6, 3};
        Watched x = Check.solver(1, Check.chain(12, 20, -10));
        for (int level = 0; level < 3; level++) {
            int last = orders[level] - 1;
            Check.due("the last row of level " + level, x.entry(level, last, last), 20);
            Check.due("a row more of level " + level, x.entry(level, last + 1, last), 0);
            Check.due("row -1 of level " + level, x.entry(level, -1, 0), 0);
            Check.due("row MAX of level " + level, x.entry(level, MAX, 0), 0);
            Check.due("row MIN of level " + level, x.entry(level, MIN, 0), 0);
        }
    }

    static void promise9IsZeroOutsideTheLevelsColumns() {
        int[] orders = {12, 6, 3};
        Watched x = Check.solver(1, Check.chain(12, 20, -10));
        for (int level = 0; level < 3; level++) {
            int last = orders[level] - 1;
            Check.due("the last column of level " + level, x.entry(level, last - 1, last), -10);
            Check.due("a column more of level " + level, x.entry(level, last, last + 1), 0);
            Check.due("column -1 of level " + level, x.entry(level, 0, -1), 0);
            Check.due("column MAX of level " + level, x.entry(level, 0, MAX), 0);
            Check.due("column MIN of level " + level, x.entry(level, 0, MIN), 0);
        }
    }

    /** What a level held for a former A does not shine through. */
    static void promise9IsZeroWhereAFormerLevelWas() {
        Watched x = Check.solver(1, Check.chain(7, 20, -10));
        Check.due("order 3: entry(1, 2, 2)", x.entry(1, 2, 2), 20);
        Check.due("levels()", x.levels(), 3);
        Check.due("set(5, 6, 0)", x.set(5, 6, 0), true);
        Check.due("set(6, 5, 0)", x.set(6, 5, 0), true);
        Check.due("set(5, 4, 0)", x.set(5, 4, 0), true);
        Check.due("set(4, 5, 0)", x.set(4, 5, 0), true);
        Check.due("levels() of a chain of 5", x.levels(), 2);
        Check.due("order 2: entry(1, 1, 1)", x.entry(1, 1, 1), 20);
        Check.due("order 2: entry(1, 2, 2)", x.entry(1, 2, 2), 0);
        Check.due("order 2: entry(1, 1, 2)", x.entry(1, 1, 2), 0);
        Check.due("no level: entry(2, 0, 0)", x.entry(2, 0, 0), 0);
    }

    /** Three pairs are left of a chain of 12: the second level's order is 3 instead of 6. */
    static void promise8DoesNotLeanWhereAFormerLevelWas() {
        Watched x = Check.solver(1, Check.chain(12, 20, -10));
        Check.due("levels()", x.levels(), 3);
        for (int i = 1; i < 12; i++) {
            if (i > 5 || i % 2 == 0) {
                Check.due("set", x.set(i, i - 1, 0), true);
                Check.due("set", x.set(i - 1, i, 0), true);
            }
        }
        Check.due("levels() of three pairs", x.levels(), 2);
        Check.levelIs(x, 1, new int[][] {{20, 0, 0}, {0, 20, 0}, {0, 0, 20}});
        Check.groupsAre(x, 1, NONE, NONE, NONE, NONE, NONE, NONE);
        Check.due("entry(1, 3, 3)", x.entry(1, 3, 3), 0);
    }

    /** One group of all 12 points: its entry is the sum of all, and is not clipped to 99. */
    static void promise9SumsMayLeaveTheRangeOfA() {
        int[][] rows = new int[12][12];
        for (int i = 0; i < 12; i++) {
            for (int j = 0; j < 12; j++) {
                rows[i][j] = -99;
            }
        }
        Watched x = Check.solver(1, rows);
        Check.due("levels()", x.levels(), 2);
        Check.due("entry(1, 0, 0)", x.entry(1, 0, 0), -144 * 99);
        Check.due("entry(1, 0, 1)", x.entry(1, 0, 1), 0);
    }

    static void promise9PointsOfNoGroupAreNotSummed() {
        int[][] rows = {{7, 3, 3, 3}, {2, 9, 0, -4}, {1, 1, 5, 1}, {1, 0, 0, 8}};
        Watched x = Check.solver(1, rows);
        Check.levelIs(x, 1, new int[][] {{13}});
    }

    // Promise 10: group

    static void promise10IsNoneBelowLevel0() {
        Watched x = Check.solver(1, Check.chain(12, 20, -10));
        Check.due("group(-1, 0)", x.group(-1, 0), NONE);
        Check.due("group(MIN, 0)", x.group(MIN, 0), NONE);
    }

    static void promise10IsNoneAboveTheLastLevel() {
        Watched x = Check.solver(1, Check.chain(12, 20, -10));
        Check.due("group(3, 0)", x.group(3, 0), NONE);
        Check.due("group(MAX, 0)", x.group(MAX, 0), NONE);
    }

    static void promise10IsNoneOnTheLastLevel() {
        Check.groupsAre(Check.solver(1, Check.chain(12, 20, -10)), 2, NONE, NONE, NONE);
        Check.groupsAre(Check.solver(1, Check.chain(4, 20, -10)), 1, NONE, NONE);
        Check.groupsAre(Check.solver(1, Check.chain(2, 20, -10)), 0, NONE, NONE);
        Check.groupsAre(Check.solver(1, Check.chain(1, 20, -10)), 0, NONE);
    }

    static void promise10IsNoneOutsideTheLevelsPoints() {
        int[] orders = {12, 6};
        int[] lastGroups = {5, 2};
        Watched x = Check.solver(1, Check.chain(12, 20, -10));
        for (int level = 0; level < 2; level++) {
            int order = orders[level];
            Check.due("the first point of level " + level, x.group(level, 0), 0);
            Check.due("the last point of level " + level, x.group(level, order - 1), lastGroups[level]);
            Check.due("a point more of level " + level, x.group(level, order), NONE);
            Check.due("point -1 of level " + level, x.group(level, -1), NONE);
            Check.due("point MAX of level " + level, x.group(level, MAX), NONE);
            Check.due("point MIN of level " + level, x.group(level, MIN), NONE);
        }
    }

    static void promise10IsNoneForAPointThatJoinedNone() {
        int[][] rows = {{7, 3, 3, 3}, {2, 9, 0, -4}, {1, 1, 5, 1}, {1, 0, 0, 8}};
        Watched x = Check.solver(1, rows);
        Check.due("levels()", x.levels(), 2);
        Check.groupsAre(x, 0, NONE, 0, NONE, 0);
    }

    static void promise10IsNoneWhereAFormerGroupWas() {
        Watched x = Check.solver(1, Check.chain(3, 20, -10));
        Check.groupsAre(x, 0, 0, 0, 0);
        Check.due("set(2, 1, 0)", x.set(2, 1, 0), true);
        Check.due("set(1, 2, 0)", x.set(1, 2, 0), true);
        Check.groupsAre(x, 0, 0, 0, NONE);
        Check.due("set(1, 0, 0)", x.set(1, 0, 0), true);
        Check.due("set(0, 1, 0)", x.set(0, 1, 0), true);
        Check.groupsAre(x, 0, NONE, NONE, NONE);
    }

    // Promise 10: LEANS

    /** Point 0 leans on 1 for its -8; its other entry decides whether it leans on 2 as well. */
    private static void leansOnTheSecond(int first, int second, boolean leans) {
        Watched x = Check.solver(1, new int[][] {{9, first, second}, {0, 9, 0}, {0, 0, 9}});
        Check.groupsAre(x, 0, 0, 0, leans ? 1 : NONE);
        Check.due("levels()", x.levels(), 2);
    }

    static void promise10LeansFromAQuarterOn() {
        leansOnTheSecond(-8, -2, true);
        leansOnTheSecond(-4, -1, true);
        leansOnTheSecond(-99, -25, true);
    }

    static void promise10DoesNotLeanBelowAQuarter() {
        leansOnTheSecond(-9, -2, false);
        leansOnTheSecond(-5, -1, false);
        leansOnTheSecond(-99, -24, false);
    }

    /** Point i leans on strong alone, or on weak too: each of the three columns is each of these once. */
    static void promise10GreatestMayStandInAnyColumn() {
        int[][] orders = {{0, 1, 2}, {0, 2, 1}, {1, 0, 2}, {1, 2, 0}, {2, 0, 1}, {2, 1, 0}};
        for (int[] o : orders) {
            int i = o[0];
            int strong = o[1];
            int weak = o[2];
            int[][] rows = new int[3][3];
            rows[i][strong] = -9;
            rows[i][weak] = -2;
            Watched below = Check.solver(1, rows);
            Check.due("below a quarter: group of weak", below.group(0, weak), NONE);
            Check.due("below a quarter: group of i", below.group(0, i), 0);
            Check.due("below a quarter: group of strong", below.group(0, strong), 0);
            rows[i][weak] = -3;
            Watched above = Check.solver(1, rows);
            int low = Math.min(strong, weak);
            Check.due("above a quarter: group of strong", above.group(0, strong), strong == low ? 0 : 1);
            Check.due("above a quarter: group of weak", above.group(0, weak), weak == low ? 0 : 1);
            Check.due("above a quarter: group of i", above.group(0, i), strong == low ? 0 : 1);
        }
    }

    /** -1 is the first below 0; a 0 does not lean, though 4 times 0 is the greatest there. */
    static void promise10LeansOnlyBelow0() {
        Check.groupsAre(Check.solver(1, new int[][] {{9, -1, 5}, {0, 9, 0}, {0, 0, 9}}), 0, 0, 0, NONE);
        Check.groupsAre(Check.solver(1, new int[][] {{9, 0, 5}, {0, 9, 0}, {0, 0, 9}}), 0, NONE, NONE, NONE);
        Check.groupsAre(Check.solver(1, new int[][] {{9, 1, 5}, {0, 9, 0}, {0, 0, 9}}), 0, NONE, NONE, NONE);
        Check.groupsAre(Check.solver(1, new int[][] {{9, -1, 0}, {0, 9, 0}, {0, 0, 9}}), 0, 0, 0, NONE);
    }

    /** The diagonal entry neither leans nor counts as the greatest. */
    static void promise10DiagonalDoesNotLean() {
        Watched x = Check.solver(1, new int[][] {{-99, -8, -2}, {0, -99, 0}, {0, 0, -99}});
        Check.groupsAre(x, 0, 0, 0, 1);
        Watched y = Check.solver(1, new int[][] {{-99, 0, 0}, {0, -99, 0}, {0, 0, -99}});
        Check.groupsAre(y, 0, NONE, NONE, NONE);
        Check.due("levels()", y.levels(), 1);
    }

    /** 0 leans on 1, but 1 not on 0: 1 alone has weight, so it is chosen, and 2 joins none. */
    static void promise10LeaningGoesOneWay() {
        Watched x = Check.solver(1, new int[][] {{3, -1, 0}, {0, 4, 0}, {5, 5, 5}});
        Check.groupsAre(x, 0, 0, 0, NONE);
        Check.levelIs(x, 1, new int[][] {{6}});
    }

    // Promise 10: the chosen points

    /** 3 has weight 3, the others have 1 or 0: 3 is chosen first, and 0 after it. */
    static void promise10GreatestWeightIsChosenFirst() {
        int[][] rows = new int[6][6];
        rows[2][3] = -1;
        rows[4][3] = -1;
        rows[5][3] = -1;
        rows[3][2] = -1;
        rows[1][0] = -1;
        Watched x = Check.solver(1, rows);
        Check.groupsAre(x, 0, 0, 0, 1, 1, 1, 1);
    }

    /** Weights 1, 2, 2, 1: 1 is chosen, 0 and 2 are tied, then 3; by 2 first, 0 would be chosen. */
    static void promise10LowestOfEqualWeightIsChosen() {
        Check.groupsAre(Check.solver(1, Check.chain(4, 20, -10)), 0, 0, 0, 0, 1);
    }

    static void promise10WeightOf0IsNotChosen() {
        int[][] rows = {{5, 0, -1}, {0, 5, 0}, {0, 0, 5}};
        Watched x = Check.solver(1, rows);
        Check.groupsAre(x, 0, 0, NONE, 0);
    }

    /**
     * Points 2 and 4 have the same weight at first; 3, tied to 1, leans on 4, which is then
     * chosen before 2, so that 2, leaning on 4, is tied.
     */
    static void promise10TiedPointsPassWeightOn() {
        int[][] rows = new int[6][6];
        rows[0][1] = -1;
        rows[3][1] = -4;
        rows[3][4] = -1;
        rows[2][4] = -1;
        rows[5][2] = -1;
        rows[4][2] = -1;
        rows[2][2] = 50;
        Watched x = Check.solver(1, rows);
        // Weights at first: 1: 2 (of 0 and 3), 2: 2 (of 5 and 4), 4: 2 (of 3 and 2).
        // 1 is chosen; 0 and 3 are tied; 4 gets a third; 4 is chosen, 2 is tied to it.
        Check.groupsAre(x, 0, 0, 0, 1, 0, 1, NONE);
        Check.due("levels()", x.levels(), 2);
        Check.levelIs(x, 1, new int[][] {{-5, -1}, {0, 48}});
    }

    /**
     * Point c has the weight 5 (of t, u and three more), y has 4 (of x and three more), x has 3 (of t,
     * u and y). c is chosen, t and u are tied and give x one more each, so that x is chosen before y,
     * and y is tied to x; y's three join none. Wherever the points stand: each turn of them is tried.
     */
    static void promise10EachTiedPointPassesWeightOnToEachPoint() {
        for (int turn = 0; turn < 12; turn++) {
            int[] at = new int[12];
            for (int k = 0; k < 12; k++) {
                at[k] = (k + turn) % 12;
            }
            int c = at[0];
            int x = at[8];
            int y = at[3];
            int[] tied = {at[1], at[11], at[2], at[4], at[5]};
            int[][] rows = new int[12][12];
            for (int k = 0; k < tied.length; k++) {
                rows[tied[k]][c] = -4;
                rows[tied[k]][x] = k < 2 ? -1 : 0;
            }
            rows[y][x] = -1;
            rows[x][y] = -1;
            int[] alone = {at[6], at[7], at[9]};
            for (int k : alone) {
                rows[k][y] = -1;
            }
            Watched s = Check.solver(1, rows);
            for (int k : tied) {
                Check.due("turn " + turn + ": group of a tied point", s.group(0, k), c < x ? 0 : 1);
            }
            Check.due("turn " + turn + ": group of x", s.group(0, x), c < x ? 1 : 0);
            Check.due("turn " + turn + ": group of y", s.group(0, y), c < x ? 1 : 0);
            for (int k : alone) {
                Check.due("turn " + turn + ": group of y's points", s.group(0, k), NONE);
            }
        }
    }

    /** 3 leans on 2, which is tied, not chosen: it joins none. */
    static void promise10PointThatLeansOnATiedOneOnlyJoinsNone() {
        int[][] rows = new int[4][4];
        rows[0][1] = -1;
        rows[2][1] = -1;
        rows[3][2] = -1;
        Watched x = Check.solver(1, rows);
        // Weights: 1: 2, 2: 1. 1 is chosen, 0 and 2 are tied; 3 stays open with weight 0.
        Check.groupsAre(x, 0, 0, 0, 0, NONE);
    }

    static void promise10JoinsTheGreatest() {
        Watched x = Check.solver(1, new int[][] {{9, 0, 0}, {-5, 9, -6}, {0, 0, 9}});
        Check.groupsAre(x, 0, 0, 1, 1);
        Check.levelIs(x, 1, new int[][] {{9, 0}, {-5, 12}});
    }

    static void promise10JoinsTheLowestOfEqualOnes() {
        Watched x = Check.solver(1, new int[][] {{9, 0, 0}, {-5, 9, -5}, {0, 0, 9}});
        Check.groupsAre(x, 0, 0, 0, 1);
        Check.levelIs(x, 1, new int[][] {{13, -5}, {0, 9}});
    }

    /** 3 is chosen before 0, but 0's group has the lower number. */
    static void promise10GroupsAreNumberedByTheirChosenPoints() {
        int[][] rows = new int[5][5];
        rows[1][3] = -2;
        rows[2][3] = -2;
        rows[4][0] = -2;
        Watched x = Check.solver(1, rows);
        Check.groupsAre(x, 0, 0, 1, 1, 1, 0);
    }

    /** On a further level the entries are sums, and LEANS is reckoned with these. */
    static void promise10FurtherLevelLeansByItsOwnEntries() {
        int[][] rows = new int[6][6];
        for (int i = 0; i < 6; i += 2) {
            rows[i][i] = 30;
            rows[i][i + 1] = -12;
            rows[i + 1][i] = -12;
            rows[i + 1][i + 1] = 30;
        }
        rows[0][2] = -2;
        rows[1][2] = 3;
        rows[2][4] = -1;
        Watched x = Check.solver(1, rows);
        // Groups {0, 1}, {2, 3}, {4, 5}; entry (0, 1) is -2 + 3, so only group 1 leans, on group 2.
        Check.groupsAre(x, 0, 0, 0, 1, 1, 2, 2);
        Check.levelIs(x, 1, new int[][] {{36, 1, 0}, {0, 36, -1}, {0, 0, 36}});
        Check.groupsAre(x, 1, NONE, 0, 0);
        Check.levelIs(x, 2, new int[][] {{71}});
    }
}
