/** What comes out of a solve, and how many rows it takes, does not hang on the workers' turns. */
public final class OrderOfTurnsTest {
    private static final int ORDERS_OF_TURNS = 4;
    private static final int ORDER = 6;
    private static final int LIMIT = 9;
    private static final int MOST_TURNS = 300;

    public static void main(String[] args) {
        Check.runAll(OrderOfTurnsTest.class);
    }

    static void promise12WhatComesOutDoesNotHangOnTheTurns() {
        for (int method = 0; method <= 2; method++) {
            for (int kind = 0; kind <= 3; kind++) {
                for (int workers = 1; workers <= 4; workers++) {
                    compare(method, kind, workers);
                }
            }
        }
    }

    private static Watched started(int method, int kind, int workers) {
        Watched x = new Watched(ORDER, workers);
        for (int i = 0; i < ORDER; i++) {
            x.set(i, i, 20 + i);
            x.load(i, 7000 - 1300 * i);
            for (int j = Math.max(0, i - 3); j < i; j++) {
                x.set(i, j, -3 * (i - j));
                x.set(j, i, -2 - i + j);
            }
        }
        Check.start(x, method, kind, 30, LIMIT);
        return x;
    }

    private static void compare(int method, int kind, int workers) {
        Watched plain = started(method, kind, 1);
        int rows = plain.run(1000);
        for (int turns = 0; turns < ORDERS_OF_TURNS; turns++) {
            Watched x = started(method, kind, workers);
            String of = "method " + method + ", kind " + kind + ", " + workers + " workers, turns " + turns;
            Check.due(of + ": rows", rowsByTurns(x, workers, turns, rows), rows);
            Check.stateIs(of, x, plain.state());
            Check.due(of + ": count()", x.count(), plain.count());
            Check.due(of + ": recounts()", x.recounts(), plain.recounts());
            for (int i = 0; i < ORDER; i++) {
                Check.due(of + ": solution(" + i + ")", x.solution(i), plain.solution(i));
                Check.due(of + ": residual(" + i + ")", x.residual(i), plain.residual(i));
            }
            for (int k = 0; k <= LIMIT; k++) {
                Check.due(of + ": history(" + k + ")", x.history(k), plain.history(k));
            }
        }
    }

    private static int rowsByTurns(Watched x, int workers, int turns, int rows) {
        int done = 0;
        for (int turn = 0; turn < MOST_TURNS && done < rows; turn++) {
            if (x.work(workerOf(turn, workers, turns)) != RowTurnSolver.NONE) {
                done++;
            }
        }
        return done;
    }

    private static int workerOf(int turn, int workers, int turns) {
        switch (turns) {
            case 0:
                return turn % workers;
            case 1:
                return workers - 1 - turn % workers;
            case 2:
                return turn / 2 % workers;
            default:
                return (turn * 7 + turn / 5) % workers;
        }
    }
}
