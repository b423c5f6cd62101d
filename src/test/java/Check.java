/** Compares answers with what is due, and ends a test with exit code 1 if one was wrong. */
final class Check {
    private static final int MOST_TOLD = 40;
    private static int wrong = 0;
    private static int asked = 0;

    private Check() {
    }

    static void due(String call, long got, long want) {
        asked++;
        if (got != want) {
            wrong++;
            if (wrong <= MOST_TOLD) {
                System.out.println(call + " answered " + got + ", due is " + want);
            }
        }
    }

    static void due(String call, boolean got, boolean want) {
        due(call, got ? 1 : 0, want ? 1 : 0);
    }

    static boolean allRight() {
        return wrong == 0;
    }

    static void end() {
        System.out.println(asked + " answers looked at, " + wrong + " wrong");
        if (wrong != 0) {
            System.exit(1);
        }
    }

    /** An object with the rows of A as given. */
    static RowTurnSolver solver(int workers, int[][] rows) {
        RowTurnSolver x = new RowTurnSolver(rows.length, workers);
        for (int i = 0; i < rows.length; i++) {
            for (int j = 0; j < rows.length; j++) {
                due("set(" + i + ", " + j + ", " + rows[i][j] + ")", x.set(i, j, rows[i][j]), true);
            }
        }
        return x;
    }

    static void loadAll(RowTurnSolver x, int... b) {
        for (int i = 0; i < b.length; i++) {
            due("load(" + i + ", " + b[i] + ")", x.load(i, b[i]), true);
        }
    }

    static void guessAll(RowTurnSolver x, int... values) {
        for (int i = 0; i < values.length; i++) {
            due("guess(" + i + ", " + values[i] + ")", x.guess(i, values[i]), true);
        }
    }

    static void solutionIs(String when, RowTurnSolver x, int... values) {
        for (int i = 0; i < values.length; i++) {
            due(when + ": solution(" + i + ")", x.solution(i), values[i]);
        }
    }

    static void residualIs(String when, RowTurnSolver x, int... values) {
        for (int i = 0; i < values.length; i++) {
            due(when + ": residual(" + i + ")", x.residual(i), values[i]);
        }
    }

    static void historyIs(String when, RowTurnSolver x, int... values) {
        due(when + ": count()", x.count(), values.length - 1);
        for (int k = 0; k < values.length; k++) {
            due(when + ": history(" + k + ")", x.history(k), values[k]);
        }
        due(when + ": history(-1)", x.history(-1), RowTurnSolver.NONE);
        due(when + ": history(count + 1)", x.history(values.length), RowTurnSolver.NONE);
    }

    static void groupsAre(RowTurnSolver x, int level, int... groups) {
        for (int i = 0; i < groups.length; i++) {
            due("group(" + level + ", " + i + ")", x.group(level, i), groups[i]);
        }
        due("group(" + level + ", -1)", x.group(level, -1), RowTurnSolver.NONE);
        due("group(" + level + ", order)", x.group(level, groups.length), RowTurnSolver.NONE);
    }

    static void levelIs(RowTurnSolver x, int level, int[][] rows) {
        int order = rows.length;
        for (int i = -1; i <= order; i++) {
            for (int j = -1; j <= order; j++) {
                boolean inside = i >= 0 && i < order && j >= 0 && j < order;
                String call = "entry(" + level + ", " + i + ", " + j + ")";
                due(call, x.entry(level, i, j), inside ? rows[i][j] : 0);
            }
        }
    }

    /** The tridiagonal matrix with one value on and one beside the diagonal. */
    static int[][] chain(int order, int on, int beside) {
        int[][] rows = new int[order][order];
        for (int i = 0; i < order; i++) {
            rows[i][i] = on;
            if (i > 0) {
                rows[i][i - 1] = beside;
                rows[i - 1][i] = beside;
            }
        }
        return rows;
    }
}
