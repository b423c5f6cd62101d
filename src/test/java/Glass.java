/**
 * Shows the z and the q of a first iteration. Points 4 and 8 of 9 stand alone, with 1 on the
 * diagonal and LARGE in b, so that each brings more than 2 to the 36th to R and to D, 4 in block 1
 * and 8 in block 2. So R and D are both held at 2 to the 36th, whatever block 0 brings, and N / D
 * is 1: x grows by z, and r shrinks by q. Points 0 to 3 are free to be looked at.
 */
final class Glass {
    private static final int ORDER = 9;

    private Glass() {
    }

    static Watched over(int[][] rows, int... b) {
        Watched x = new Watched(ORDER, 1);
        Check.setAll(x, rows);
        Check.loadAll(x, b);
        for (int point = 4; point < ORDER; point += 4) {
            Check.due("set", x.set(point, point, 1), true);
            Check.due("load", x.load(point, RowTurnSolver.LARGE), true);
        }
        return x;
    }

    /** One iteration of method 0. */
    static void look(Watched x, int kind) {
        Check.start(x, 0, kind, 0, 1);
        Check.run(x, ORDER, ORDER);
        Check.due("the first iteration was done: count()", x.count(), 1);
    }

    static void zIs(int kind, int[][] rows, int[] b, int... z) {
        Watched x = over(rows, b);
        look(x, kind);
        Check.solutionIs("z by kind " + kind, x, z);
    }

    static int[][] diagonal(int... entries) {
        int[][] rows = new int[entries.length][entries.length];
        for (int i = 0; i < entries.length; i++) {
            rows[i][i] = entries[i];
        }
        return rows;
    }
}
