/** A RowTurnSolver whose calls are counted: what one answers after its 512th call is free. */
final class Watched {
    static final int MOST_CALLS = 512;

    private final RowTurnSolver solver;
    private int calls;

    Watched(int order, int workers) {
        solver = new RowTurnSolver(order, workers);
    }

    int calls() {
        return calls;
    }

    private RowTurnSolver next() {
        calls++;
        if (calls > MOST_CALLS) {
            throw new IllegalStateException("this test asks an object more than is promised");
        }
        return solver;
    }

    boolean set(int i, int j, int v) {
        return next().set(i, j, v);
    }

    boolean load(int i, int v) {
        return next().load(i, v);
    }

    boolean guess(int i, int v) {
        return next().guess(i, v);
    }

    int solution(int i) {
        return next().solution(i);
    }

    int residual(int i) {
        return next().residual(i);
    }

    int bound(int k) {
        return next().bound(k);
    }

    int levels() {
        return next().levels();
    }

    int entry(int level, int i, int j) {
        return next().entry(level, i, j);
    }

    int group(int level, int i) {
        return next().group(level, i);
    }

    boolean start(int method, int kind, int tolerance, int limit) {
        return next().start(method, kind, tolerance, limit);
    }

    int work(int k) {
        return next().work(k);
    }

    int run(int rows) {
        return next().run(rows);
    }

    int left(int k) {
        return next().left(k);
    }

    boolean cancel() {
        return next().cancel();
    }

    int state() {
        return next().state();
    }

    int count() {
        return next().count();
    }

    int recounts() {
        return next().recounts();
    }

    int history(int k) {
        return next().history(k);
    }
}
