import java.util.TreeMap;

/**
 * Long runs of calls, right and wrong ones mixed, of which every answer is compared with the plain
 * model's. The runs are drawn from a fixed seed, so they are the same each time.
 */
public final class AgainstPlainModelTest {
    private static final int RUNS = 2500;
    /** No step of a run makes more calls than this. */
    private static final int MOST_OF_A_STEP = 40;
    private static final int LARGE = RowTurnSolver.LARGE;
    private static final String[] MUST_BE_MET = {"block held", "clip", "dot held", "N below 0",
        "cancelled in product", "cancelled in recount", "cycle over 1 levels", "cycle over 2 levels",
        "cycle over 3 levels", "direction follows", "diverged", "stalled",
        "stalled after recount", "limit", "limit after recount", "goes on", "goes on after recount",
        "state 2", "state 3", "state 4", "state 5", "state 6", "state 7"};

    private final TreeMap<String, Integer> met = new TreeMap<>();
    private long seed = 20261115;
    private Watched x;
    private PlainModel m;
    private String run;

    public static void main(String[] args) {
        AgainstPlainModelTest test = new AgainstPlainModelTest();
        for (int k = 0; k < RUNS && Check.allRight(); k++) {
            test.oneRun(k);
        }
        for (String what : MUST_BE_MET) {
            Check.due("runs that met: " + what, test.met.getOrDefault(what, 0) > 0, true);
        }
        System.out.println("met: " + test.met);
        Check.end();
    }

    private int draw(int from, int to) {
        seed = seed * 6364136223846793005L + 1442695040888963407L;
        return from + (int) ((seed >>> 33) % (to - from + 1));
    }

    private boolean oneIn(int n) {
        return draw(1, n) == 1;
    }

    private int index(int n) {
        return oneIn(25) ? draw(-2, n + 1) : draw(0, n - 1);
    }

    private void oneRun(int number) {
        int order = oneIn(10) ? draw(-2, 15) : draw(1, 12);
        int workers = oneIn(10) ? draw(-2, 7) : draw(1, 4);
        x = new Watched(order, workers);
        m = new PlainModel(order, workers, met);
        run = "run " + number + " (" + order + ", " + workers + "), ";
        fillMatrix(draw(0, 5));
        fillVectors(draw(0, 4));
        while (x.calls() + MOST_OF_A_STEP <= Watched.MOST_CALLS && Check.allRight()) {
            if (m.state == 1) {
                callUnderWay();
            } else {
                callBetweenSolves();
            }
        }
    }

    private void fillMatrix(int shape) {
        int n = m.n;
        for (int i = 0; i < n; i++) {
            for (int j = 0; j <= i; j++) {
                int v = entryOf(shape, i, j);
                if (v != 0) {
                    set(i, j, v);
                }
                int mirrored = shape == 2 ? entryOf(shape, j, i) : v;
                if (i != j && mirrored != 0 && !(shape == 5 && oneIn(3))) {
                    set(j, i, mirrored);
                }
            }
        }
    }

    private int entryOf(int shape, int i, int j) {
        switch (shape) {
            case 0: // a chain that is firmly held
                return i == j ? draw(20, 99) : i - j == 1 ? -draw(1, 20) : 0;
            case 1: // a grid three wide
                return i == j ? 40 : i - j == 3 || i - j == 1 && i % 3 != 0 ? -10 : 0;
            case 2: // anything
                return oneIn(2) ? draw(-99, 99) : 0;
            case 3: // mostly negative beside the diagonal
                return i == j ? draw(50, 99) : oneIn(3) ? -draw(1, 12) : oneIn(8) ? draw(1, 9) : 0;
            case 4: // mostly the diagonal, with gaps
                return i == j ? (oneIn(6) ? 0 : draw(-5, 99)) : oneIn(6) ? draw(-3, 3) : 0;
            default: // of unlike sizes
                return i == j ? draw(0, 30) : oneIn(2) ? -draw(0, 3) * draw(0, 8) : 0;
        }
    }

    private int value(int size) {
        switch (size) {
            case 0:
                return draw(-1, 1);
            case 1:
                return draw(-40, 40);
            case 2:
                return draw(-5000, 5000);
            case 3:
                return oneIn(2) ? LARGE - draw(0, 3) : draw(-LARGE, LARGE);
            default:
                return draw(-LARGE, LARGE);
        }
    }

    private void fillVectors(int size) {
        for (int i = 0; i < m.n; i++) {
            load(i, value(size));
        }
        if (oneIn(2)) {
            for (int i = 0; i < m.n; i++) {
                guess(i, value(size));
            }
        }
    }

    private void callBetweenSolves() {
        switch (draw(0, 11)) {
            case 0:
                set(index(m.n), index(m.n), oneIn(8) ? draw(-103, 103) : draw(-30, 30));
                break;
            case 1:
                load(index(m.n), oneIn(8) ? draw(-LARGE - 2, LARGE + 2) : value(draw(0, 4)));
                break;
            case 2:
                guess(index(m.n), oneIn(8) ? draw(-LARGE - 2, LARGE + 2) : value(draw(0, 4)));
                break;
            case 3:
                askLevels();
                break;
            case 4:
                if (oneIn(6)) {
                    fillVectors(draw(0, 4));
                }
                break;
            case 5:
                askSome();
                break;
            default:
                start();
                break;
        }
    }

    private void callUnderWay() {
        switch (draw(0, 15)) {
            case 0:
                set(index(m.n), index(m.n), draw(-99, 99));
                break;
            case 1:
                load(index(m.n), draw(-99, 99));
                break;
            case 2:
                guess(index(m.n), draw(-99, 99));
                break;
            case 3:
                if (oneIn(4)) {
                    due("cancel()", x.cancel(), m.cancel());
                }
                break;
            case 4:
                askLevels();
                break;
            case 5:
            case 6:
                askSome();
                break;
            case 7:
                start();
                break;
            case 8:
            case 9:
            case 10:
                int rows = oneIn(3) ? draw(-3, 1100) : draw(1, 3 * m.n);
                due("run(" + rows + ")", x.run(rows), m.run(rows));
                askAll();
                break;
            default:
                int k = index(m.w);
                due("work(" + k + ")", x.work(k), m.work(k));
                due("left(" + k + ")", x.left(k), m.left(k));
                break;
        }
    }

    private void start() {
        int method = oneIn(30) ? draw(-1, 3) : draw(0, 2);
        int kind = oneIn(30) ? draw(-1, 4) : draw(0, 3);
        int tolerance = oneIn(30) ? draw(-1, LARGE + 1) : draw(0, 1) * draw(0, 60);
        int limit = oneIn(30) ? draw(-1, 42) : draw(0, 1) * draw(1, 10) + draw(1, 30);
        String call = "start(" + method + ", " + kind + ", " + tolerance + ", " + limit + ")";
        due(call, x.start(method, kind, tolerance, limit), m.start(method, kind, tolerance, limit));
    }

    private void set(int i, int j, int v) {
        due("set(" + i + ", " + j + ", " + v + ")", x.set(i, j, v), m.set(i, j, v));
    }

    private void load(int i, int v) {
        due("load(" + i + ", " + v + ")", x.load(i, v), m.load(i, v));
    }

    private void guess(int i, int v) {
        due("guess(" + i + ", " + v + ")", x.guess(i, v), m.guess(i, v));
    }

    private void askLevels() {
        due("levels()", x.levels(), m.levels());
        int level = draw(-1, 3);
        for (int k = 0; k < 3; k++) {
            int i = index(m.n);
            int j = index(m.n);
            due("entry(" + level + ", " + i + ", " + j + ")", x.entry(level, i, j), m.entry(level, i, j));
            due("group(" + level + ", " + i + ")", x.group(level, i), m.group(level, i));
        }
        int k = draw(-1, m.w + 1);
        due("bound(" + k + ")", x.bound(k), m.bound(k));
    }

    private void askSome() {
        int i = index(m.n);
        due("solution(" + i + ")", x.solution(i), m.solution(i));
        due("residual(" + i + ")", x.residual(i), m.residual(i));
        int k = draw(-1, m.w);
        due("left(" + k + ")", x.left(k), m.left(k));
        int h = draw(-1, 41);
        due("history(" + h + ")", x.history(h), m.history(h));
    }

    private void askAll() {
        due("state()", x.state(), m.state);
        due("count()", x.count(), m.count());
        due("recounts()", x.recounts(), m.recounts);
        due("history(newest)", x.history(m.count()), m.history(m.count()));
        for (int i = 0; i < m.n; i++) {
            due("solution(" + i + ")", x.solution(i), m.solution(i));
            due("residual(" + i + ")", x.residual(i), m.residual(i));
        }
    }

    private void due(String call, boolean got, boolean want) {
        due(call, got ? 1 : 0, want ? 1 : 0);
    }

    private void due(String call, long got, long want) {
        Check.due(run + "call " + x.calls() + ": " + call, got, want);
    }
}
