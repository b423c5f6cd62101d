/** What comes out of a solve, and how many rows it takes, does not hang on the workers' turns. */
public final class TurnsTest {
    private static final int ORDERS_OF_TURNS = 4;

    public static void main(String[] args) {
        for (int method = 0; method <= 2; method++) {
            for (int kind = 0; kind <= 3; kind++) {
                for (int workers = 1; workers <= 4; workers++) {
                    compare(method, kind, workers);
                }
            }
        }
        Check.end();
    }

    private static RowTurnSolver started(int method, int kind, int workers) {
        RowTurnSolver x = new RowTurnSolver(10, workers);
        for (int i = 0; i < 10; i++) {
            x.set(i, i, 40 + i);
            x.load(i, 7000 - 1300 * i);
            for (int j = Math.max(0, i - 3); j < i; j++) {
                x.set(i, j, -3 * (i - j));
                x.set(j, i, -2 - i + j);
            }
        }
        Check.due("start", x.start(method, kind, 30, 25), true);
        return x;
    }

    private static void compare(int method, int kind, int workers) {
        RowTurnSolver plain = started(method, kind, 1);
        int rows = plain.run(1000);
        for (int turns = 0; turns < ORDERS_OF_TURNS; turns++) {
            RowTurnSolver x = started(method, kind, workers);
            String of = "method " + method + ", kind " + kind + ", " + workers + " workers, turns " + turns + ": ";
            Check.due(of + "rows", rowsByTurns(x, workers, turns), rows);
            Check.due(of + "state()", x.state(), plain.state());
            Check.due(of + "count()", x.count(), plain.count());
            Check.due(of + "recounts()", x.recounts(), plain.recounts());
            for (int i = 0; i < 10; i++) {
                Check.due(of + "solution(" + i + ")", x.solution(i), plain.solution(i));
                Check.due(of + "residual(" + i + ")", x.residual(i), plain.residual(i));
            }
            for (int k = 0; k <= 41; k++) {
                Check.due(of + "history(" + k + ")", x.history(k), plain.history(k));
            }
        }
    }

    private static int rowsByTurns(RowTurnSolver x, int workers, int turns) {
        int rows = 0;
        for (int turn = 0; turn < 100000 && x.state() == 1; turn++) {
            int k = workerOf(turn, workers, turns);
            int before = x.left(k);
            int after = x.work(k);
            Check.due("work(" + k + ") with " + before + " left", after, before - 1);
            if (after != RowTurnSolver.NONE) {
                rows++;
            }
        }
        return rows;
    }

    private static int workerOf(int turn, int workers, int turns) {
        switch (turns) {
            case 0:
                return turn % workers;
            case 1:
                return workers - 1 - turn % workers;
            case 2:
                return turn / 20 % workers;
            default:
                return (turn * 7 + turn / 5) % workers;
        }
    }
}
