import java.util.LinkedHashMap;
import java.util.Map;
import java.util.function.Supplier;

/** Objects of order 3 with 2 workers, brought into every state; each call makes a new one. */
final class Scenes {
    static final int ORDER = 3;
    static final int WORKERS = 2;

    private Scenes() {
    }

    static Map<String, Supplier<Watched>> all() {
        Map<String, Supplier<Watched>> scenes = new LinkedHashMap<>();
        scenes.put("new", () -> new Watched(ORDER, WORKERS));
        scenes.put("filled", Scenes::filled);
        scenes.put("in the first product", Scenes::inTheFirstProduct);
        scenes.put("in a later product", Scenes::inALaterProduct);
        scenes.put("worker 0 without a row", Scenes::workerWithoutARow);
        scenes.put("in a recount", Scenes::inARecount);
        for (int state = 2; state <= 7; state++) {
            int end = state;
            scenes.put("ended with state " + state, () -> ended(end));
        }
        return scenes;
    }

    private static Watched with(int[][] rows, int... b) {
        Watched x = Check.solver(WORKERS, rows);
        Check.loadAll(x, b);
        return x;
    }

    static Watched filled() {
        Watched x = chain();
        Check.guessAll(x, 1, 2, 3);
        return x;
    }

    private static Watched chain() {
        return with(Check.chain(ORDER, 20, -10), 1000, 2000, -500);
    }

    private static Watched chainAfterRows(int kind, int rows) {
        Watched x = chain();
        Check.start(x, 1, kind, 0, 9);
        Check.run(x, rows, rows);
        return x;
    }

    static Watched inTheFirstProduct() {
        return chainAfterRows(3, 1);
    }

    static Watched inALaterProduct() {
        return chainAfterRows(0, 4);
    }

    static Watched workerWithoutARow() {
        return chainAfterRows(2, 2);
    }

    /** After the first iteration r is (3, -2, 0), within the tolerance; the recount is to find 5. */
    private static Watched beforeARecount(int tolerance) {
        Watched x = with(new int[][] {{5, -1, 0}, {-1, 8, 0}, {0, 0, 4}}, 9, 8, 0);
        Check.start(x, 1, 0, tolerance, 9);
        Check.run(x, 3, 3);
        return x;
    }

    static Watched inARecount() {
        Watched x = beforeARecount(3);
        Check.run(x, 1, 1);
        return x;
    }

    static Watched ended(int state) {
        Watched x = endedSomehow(state);
        Check.stateIs("scene", x, state);
        return x;
    }

    private static Watched endedSomehow(int state) {
        switch (state) {
            case 2: {
                Watched x = beforeARecount(5);
                Check.run(x, 1000, 3);
                return x;
            }
            case 3: {
                Watched x = chain();
                Check.start(x, 0, 0, 0, 2);
                Check.run(x, 1000, 6);
                return x;
            }
            case 4:
                return turning(2, -1, 6);
            case 5:
                return turning(2, 1, 15);
            case 6:
                return turning(1, 1, 15);
            default: {
                Watched x = inALaterProduct();
                Check.due("cancel()", x.cancel(), true);
                return x;
            }
        }
    }

    /**
     * A = (1 v; -v d), b = (1, 0). First p = r = (1, 0), q = (1, -v), N = D = 1: r = (0, v). Then
     * q = (v v, d v), N = v v, D = d v v: BROKEN for d = -1; for d = 1, r = (-v v, 0), and so on,
     * v times as large each time.
     */
    private static Watched turning(int v, int d, int rows) {
        Watched x = with(new int[][] {{1, v, 0}, {-v, d, 0}, {0, 0, 1}}, 1, 0, 0);
        Check.start(x, 0, 0, 0, 9);
        Check.run(x, 1000, rows);
        return x;
    }
}
