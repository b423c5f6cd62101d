/**
 * Solves A x = b step by step in whole numbers of limited size; the rows of every product are
 * done by workers whose turns the caller gives, and what comes out does not hang on these turns.
 */
public final class RowTurnSolver {
    public static final int NONE = -1;
    public static final int LARGE = 524288;

    private static final int MOST_ORDER = 12;
    private static final int MOST_WORKERS = 4;
    private static final int MOST_ENTRY = 99;
    private static final int MOST_LEVELS = 3;
    private static final int LEAST_ORDER_TO_GROUP = 3;
    private static final int MOST_LIMIT = 40;
    private static final int MOST_ROWS = 1000;

    private static final int BLOCK = 4;
    private static final long MOST_DOT = 68719476736L;
    private static final int SCALE = 16;

    private static final boolean UP = true;
    private static final boolean DOWN = false;

    private static final int CONJUGATE = 1;
    private static final int LEAST_RESIDUAL = 2;
    private static final int LAST_METHOD = 2;

    private static final int BY_DIAGONAL = 1;
    private static final int BY_SWEEPS = 2;
    private static final int BY_CYCLE = 3;
    private static final int LAST_KIND = 3;

    private static final int NOT_STARTED = 0;
    private static final int RUNNING = 1;
    private static final int CONVERGED = 2;
    private static final int LIMIT = 3;
    private static final int BROKEN = 4;
    private static final int DIVERGED = 5;
    private static final int STALLED = 6;
    private static final int CANCELLED = 7;

    private final Equation equation;
    private final LevelStack stack;
    private final Turns turns;
    private final Solve solve;

    public RowTurnSolver(int order, int workers) {
        equation = new Equation(within(order, 1, MOST_ORDER));
        stack = new LevelStack(equation);
        turns = new Turns(within(workers, 1, MOST_WORKERS));
        solve = new Solve(equation, stack, turns);
    }

    public boolean set(int i, int j, int v) {
        if (solve.isRunning() || !equation.has(i) || !equation.has(j)) {
            return false;
        }
        if (v < -MOST_ENTRY || v > MOST_ENTRY) {
            return false;
        }
        equation.a[i][j] = v;
        stack.forget();
        return true;
    }

    public boolean load(int i, int v) {
        return put(equation.b, i, v);
    }

    public boolean guess(int i, int v) {
        return put(equation.x, i, v);
    }

    public int solution(int i) {
        return equation.has(i) ? equation.x[i] : 0;
    }

    public int residual(int i) {
        return equation.has(i) ? solve.r[i] : 0;
    }

    public int bound(int k) {
        return k < 0 || k > turns.workers ? NONE : turns.firstRow(equation, k);
    }

    public int levels() {
        stack.refresh();
        return stack.used;
    }

    public int entry(int level, int i, int j) {
        stack.refresh();
        if (level < 0 || level >= stack.used) {
            return 0;
        }
        Level asked = stack.all[level];
        return asked.has(i) && asked.has(j) ? asked.a[i][j] : 0;
    }

    public int group(int level, int i) {
        stack.refresh();
        if (level < 0 || level >= stack.used - 1) {
            return NONE;
        }
        Level asked = stack.all[level];
        return asked.has(i) ? asked.groupOf[i] : NONE;
    }

    public boolean start(int method, int kind, int tolerance, int limit) {
        if (solve.isRunning() || method < 0 || method > LAST_METHOD) {
            return false;
        }
        if (kind < 0 || kind > LAST_KIND || tolerance < 0 || tolerance > LARGE) {
            return false;
        }
        if (limit < 1 || limit > MOST_LIMIT) {
            return false;
        }
        stack.refresh();
        turns.divide(equation);
        solve.begin(method, kind, tolerance, limit);
        return true;
    }

    public int work(int k) {
        if (!solve.isRunning() || !turns.hasWorker(k) || turns.rowsLeft(k) == 0) {
            return NONE;
        }
        return solve.doRow(k);
    }

    public int run(int rows) {
        int most = within(rows, 0, MOST_ROWS);
        int done = 0;
        while (done < most && solve.isRunning()) {
            int k = turns.lowestWithRow();
            if (k == NONE) {
                break;
            }
            solve.doRow(k);
            done++;
        }
        return done;
    }

    public int left(int k) {
        return solve.isRunning() && turns.hasWorker(k) ? turns.rowsLeft(k) : NONE;
    }

    public boolean cancel() {
        if (!solve.isRunning()) {
            return false;
        }
        solve.state = CANCELLED;
        return true;
    }

    public int state() {
        return solve.state;
    }

    public int count() {
        return solve.trace.iterations;
    }

    public int recounts() {
        return solve.recountsDone;
    }

    public int history(int k) {
        if (solve.state == NOT_STARTED || k < 0 || k > solve.trace.iterations) {
            return NONE;
        }
        return solve.trace.sizes[k];
    }

    private boolean put(int[] vector, int i, int v) {
        if (solve.isRunning() || !equation.has(i) || v < -LARGE || v > LARGE) {
            return false;
        }
        vector[i] = v;
        return true;
    }

    private static int within(int v, int least, int most) {
        return v < least ? least : v > most ? most : v;
    }

    private static int clip(long v) {
        return v > LARGE ? LARGE : v < -LARGE ? -LARGE : (int) v;
    }

    private static long hold(long v) {
        return v > MOST_DOT ? MOST_DOT : v < -MOST_DOT ? -MOST_DOT : v;
    }

    private static long dot(int[] u, int[] v) {
        int length = Math.min(u.length, v.length);
        long total = 0;
        for (int from = 0; from < length; from += BLOCK) {
            int to = Math.min(from + BLOCK, length);
            long sum = 0;
            for (int i = from; i < to; i++) {
                sum = hold(sum + (long) u[i] * v[i]);
            }
            total = hold(total + sum);
        }
        return total;
    }

    private static int size(int[] v) {
        int greatest = 0;
        for (int i = 0; i < v.length; i++) {
            greatest = Math.max(greatest, Math.abs(v[i]));
        }
        return greatest;
    }

    /** A, b and x. */
    private static final class Equation {
        final int order;
        final int[][] a;
        final int[] b;
        final int[] x;

        Equation(int order) {
            this.order = order;
            a = new int[order][order];
            b = new int[order];
            x = new int[order];
        }

        boolean has(int i) {
            return i >= 0 && i < order;
        }

        int productRow(int i, int[] v) {
            int sum = 0;
            for (int j = 0; j < order; j++) {
                sum = clip(sum + (long) a[i][j] * v[j]);
            }
            return sum;
        }

        int filledInRow(int i) {
            int filled = 0;
            for (int j = 0; j < order; j++) {
                if (a[i][j] != 0) {
                    filled++;
                }
            }
            return filled;
        }
    }

    /** Which rows of the present product each worker has, and how far it is with them. */
    private static final class Turns {
        final int workers;
        private final int[] firstOf;
        private final int[] nextOf;

        Turns(int workers) {
            this.workers = workers;
            firstOf = new int[workers + 1];
            nextOf = new int[workers];
        }

        boolean hasWorker(int k) {
            return k >= 0 && k < workers;
        }

        int firstRow(Equation equation, int k) {
            if (k == workers) {
                return equation.order;
            }
            int all = 0;
            for (int i = 0; i < equation.order; i++) {
                all += equation.filledInRow(i);
            }
            int below = 0;
            int row = 0;
            while (row < equation.order && workers * below < k * all) {
                below += equation.filledInRow(row);
                row++;
            }
            return row;
        }

        void divide(Equation equation) {
            for (int k = 0; k <= workers; k++) {
                firstOf[k] = firstRow(equation, k);
            }
        }

        void beginProduct() {
            for (int k = 0; k < workers; k++) {
                nextOf[k] = firstOf[k];
            }
        }

        int rowsLeft(int k) {
            return firstOf[k + 1] - nextOf[k];
        }

        int takeRow(int k) {
            int row = nextOf[k];
            nextOf[k] = row + 1;
            return row;
        }

        int lowestWithRow() {
            for (int k = 0; k < workers; k++) {
                if (rowsLeft(k) > 0) {
                    return k;
                }
            }
            return NONE;
        }
    }

    /** One level's matrix, its groups, and the right side and values of a sweep over it. */
    private static final class Level {
        final int[][] a;
        final int[] groupOf;
        final int[] f;
        final int[] z;
        int order;

        Level(int[][] a, int order) {
            this.a = a;
            this.order = order;
            groupOf = new int[order];
            f = new int[order];
            z = new int[order];
        }

        boolean has(int i) {
            return i >= 0 && i < order;
        }

        void clearValues() {
            for (int i = 0; i < order; i++) {
                z[i] = 0;
            }
        }

        void sweep(boolean up) {
            for (int step = 0; step < order; step++) {
                int i = up ? step : order - 1 - step;
                int pivot = a[i][i];
                if (pivot != 0) {
                    // What its own value takes away in the defect is given back.
                    z[i] = clip((defect(i) + (long) pivot * z[i]) / pivot);
                }
            }
        }

        private long defect(int i) {
            long rest = f[i];
            for (int j = 0; j < order; j++) {
                rest -= (long) a[i][j] * z[j];
            }
            return rest;
        }

        void handDefectTo(Level next) {
            for (int g = 0; g < next.order; g++) {
                long sum = 0;
                for (int i = 0; i < order; i++) {
                    if (groupOf[i] == g) {
                        sum += defect(i);
                    }
                }
                next.f[g] = clip(sum);
            }
        }

        void addValuesOf(Level next) {
            for (int i = 0; i < order; i++) {
                if (groupOf[i] != NONE) {
                    z[i] = clip((long) z[i] + next.z[groupOf[i]]);
                }
            }
        }

        void sumGroupsInto(Level next, int groups) {
            next.order = groups;
            for (int g = 0; g < groups; g++) {
                for (int h = 0; h < groups; h++) {
                    next.a[g][h] = 0;
                }
            }
            for (int i = 0; i < order; i++) {
                for (int j = 0; j < order; j++) {
                    if (groupOf[i] != NONE && groupOf[j] != NONE) {
                        next.a[groupOf[i]][groupOf[j]] += a[i][j];
                    }
                }
            }
        }
    }

    /** Divides the points of a level into groups; one object serves all levels, one at a time. */
    private static final class Grouping {
        private static final int OPEN = 0;
        private static final int CHOSEN = 1;
        private static final int JUST_TIED = 2;
        private static final int TIED = 3;

        private final int[] strongest;
        private final int[] weight;
        private final int[] standing;
        private final int[] numberOf;
        private int[][] a;
        private int order;

        Grouping(Level first) {
            a = first.a;
            order = first.order;
            strongest = new int[order];
            weight = new int[order];
            standing = new int[order];
            numberOf = new int[order];
        }

        /** Answers the number of groups. */
        int divide(Level level) {
            a = level.a;
            order = level.order;
            weighAll();
            for (int round = 0; round < order; round++) {
                int point = heaviestOpen();
                if (point == NONE) {
                    break;
                }
                standing[point] = CHOSEN;
                tieTo(point);
                passWeightOn();
            }
            int groups = numberGroups();
            for (int i = 0; i < order; i++) {
                int centre = standing[i] == CHOSEN ? i : strongestChosen(i);
                level.groupOf[i] = centre == NONE ? NONE : numberOf[centre];
            }
            return groups;
        }

        private boolean leans(int i, int j) {
            return j != i && a[i][j] < 0 && 4 * -a[i][j] >= strongest[i];
        }

        private void weighAll() {
            for (int i = 0; i < order; i++) {
                standing[i] = OPEN;
                weight[i] = 0;
                strongest[i] = 0;
                for (int k = 0; k < order; k++) {
                    if (k != i) {
                        strongest[i] = Math.max(strongest[i], -a[i][k]);
                    }
                }
            }
            for (int i = 0; i < order; i++) {
                for (int j = 0; j < order; j++) {
                    if (leans(i, j)) {
                        weight[j]++;
                    }
                }
            }
        }

        private int heaviestOpen() {
            int best = NONE;
            int most = 0;
            for (int i = 0; i < order; i++) {
                if (standing[i] == OPEN && weight[i] > most) {
                    best = i;
                    most = weight[i];
                }
            }
            return best;
        }

        private void tieTo(int point) {
            for (int i = 0; i < order; i++) {
                if (standing[i] == OPEN && leans(i, point)) {
                    standing[i] = JUST_TIED;
                }
            }
        }

        private void passWeightOn() {
            for (int i = 0; i < order; i++) {
                if (standing[i] == JUST_TIED) {
                    for (int j = 0; j < order; j++) {
                        if (standing[j] == OPEN && leans(i, j)) {
                            weight[j]++;
                        }
                    }
                    standing[i] = TIED;
                }
            }
        }

        private int numberGroups() {
            int groups = 0;
            for (int i = 0; i < order; i++) {
                if (standing[i] == CHOSEN) {
                    numberOf[i] = groups;
                    groups++;
                }
            }
            return groups;
        }

        private int strongestChosen(int i) {
            int best = NONE;
            int most = 0;
            for (int j = 0; j < order; j++) {
                if (standing[j] == CHOSEN && leans(i, j) && -a[i][j] > most) {
                    best = j;
                    most = -a[i][j];
                }
            }
            return best;
        }
    }

    /** The levels of the present A, made anew only when they are asked for after a change. */
    private static final class LevelStack {
        final Level[] all;
        int used;
        private final Grouping grouping;
        private boolean fresh;

        LevelStack(Equation equation) {
            int order = equation.order;
            all = new Level[MOST_LEVELS];
            // Level 0 is A itself, so it holds the same rows.
            all[0] = new Level(equation.a, order);
            for (int k = 1; k < MOST_LEVELS; k++) {
                all[k] = new Level(new int[order][order], order);
            }
            grouping = new Grouping(all[0]);
            used = 1;
            fresh = false;
        }

        void forget() {
            fresh = false;
        }

        void refresh() {
            if (fresh) {
                return;
            }
            fresh = true;
            used = 1;
            for (int k = 0; k < MOST_LEVELS - 1; k++) {
                Level level = all[k];
                int groups = level.order < LEAST_ORDER_TO_GROUP ? 0 : grouping.divide(level);
                if (groups == 0) {
                    return;
                }
                level.sumGroupsInto(all[k + 1], groups);
                used++;
            }
        }

        /** Goes down and up again in loops, as each level has at most one below it. */
        void cycle() {
            int last = used - 1;
            for (int k = 0; k < last; k++) {
                all[k].clearValues();
                all[k].sweep(UP);
                all[k].handDefectTo(all[k + 1]);
            }
            Level lowest = all[last];
            lowest.clearValues();
            lowest.sweep(UP);
            lowest.sweep(DOWN);
            lowest.sweep(UP);
            lowest.sweep(DOWN);
            for (int k = last - 1; k >= 0; k--) {
                all[k].addValuesOf(all[k + 1]);
                all[k].sweep(DOWN);
            }
        }
    }

    /** The count and the history of a solve. */
    private static final class Trace {
        private static final int LATEST = 5;
        private static final int TOO_MANY_TIMES = 16;

        final int[] sizes = new int[MOST_LIMIT + 1];
        int iterations;

        void open(int size) {
            iterations = 0;
            sizes[0] = size;
        }

        void add(int size) {
            if (iterations < MOST_LIMIT) {
                iterations++;
                sizes[iterations] = size;
            }
        }

        void replaceNewest(int size) {
            sizes[iterations] = size;
        }

        int newest() {
            return sizes[iterations];
        }

        boolean hasDiverged() {
            return newest() > TOO_MANY_TIMES * sizes[0];
        }

        boolean hasStalled() {
            if (iterations < LATEST) {
                return false;
            }
            int firstLate = iterations - LATEST + 1;
            return least(firstLate, iterations) >= least(0, firstLate - 1);
        }

        private int least(int from, int to) {
            int least = sizes[from];
            for (int k = from + 1; k <= to; k++) {
                least = Math.min(least, sizes[k]);
            }
            return least;
        }
    }

    /** The latest solve. */
    private static final class Solve {
        final int[] r;
        final Trace trace = new Trace();
        int state = NOT_STARTED;
        int recountsDone;

        private final Equation equation;
        private final LevelStack stack;
        private final Turns turns;
        private final int[] z;
        private final int[] p;
        private final int[] q;
        private int method;
        private int kind;
        private int tolerance;
        private int limit;
        private long dotOfRAndZ;
        private boolean directionIsNew;
        private boolean recounting;

        Solve(Equation equation, LevelStack stack, Turns turns) {
            this.equation = equation;
            this.stack = stack;
            this.turns = turns;
            r = new int[equation.order];
            z = new int[equation.order];
            p = new int[equation.order];
            q = new int[equation.order];
        }

        boolean isRunning() {
            return state == RUNNING;
        }

        void begin(int method, int kind, int tolerance, int limit) {
            this.method = method;
            this.kind = kind;
            this.tolerance = tolerance;
            this.limit = limit;
            recountsDone = 0;
            recounting = false;
            directionIsNew = true;
            for (int i = 0; i < equation.order; i++) {
                q[i] = equation.productRow(i, equation.x);
            }
            takeResidualFromProduct();
            trace.open(size(r));
            state = trace.newest() <= tolerance ? CONVERGED : RUNNING;
            if (state == RUNNING) {
                beginIteration();
            }
        }

        /** Answers what worker k has left of the product that its row belongs to. */
        int doRow(int k) {
            int row = turns.takeRow(k);
            q[row] = equation.productRow(row, recounting ? equation.x : p);
            int rowsLeft = turns.rowsLeft(k);
            if (turns.lowestWithRow() == NONE) {
                if (recounting) {
                    endRecount();
                } else {
                    endIteration();
                }
                // The next product begins here, not in the ends above, to keep calls shallow.
                if (state == RUNNING && recounting) {
                    turns.beginProduct();
                } else if (state == RUNNING) {
                    beginIteration();
                }
            }
            return rowsLeft;
        }

        private void beginIteration() {
            prepare();
            long before = dotOfRAndZ;
            dotOfRAndZ = dot(r, z);
            boolean follows = method == CONJUGATE && !directionIsNew && before != 0;
            for (int i = 0; i < equation.order; i++) {
                p[i] = follows ? clip(z[i] + dotOfRAndZ * p[i] / before) : z[i];
            }
            directionIsNew = false;
            turns.beginProduct();
        }

        private void endIteration() {
            boolean least = method == LEAST_RESIDUAL;
            long above = least ? dot(r, q) : dotOfRAndZ;
            long below = least ? dot(q, q) : dot(p, q);
            if (above == 0 || below <= 0) {
                state = BROKEN;
                return;
            }
            for (int i = 0; i < equation.order; i++) {
                equation.x[i] = clip(equation.x[i] + above * p[i] / below);
                r[i] = clip(r[i] - above * q[i] / below);
            }
            trace.add(size(r));
            if (trace.newest() <= tolerance) {
                recounting = true;
            } else {
                judge();
            }
        }

        private void endRecount() {
            recounting = false;
            directionIsNew = true;
            recountsDone++;
            takeResidualFromProduct();
            trace.replaceNewest(size(r));
            if (trace.newest() <= tolerance) {
                state = CONVERGED;
            } else {
                judge();
            }
        }

        private void judge() {
            if (trace.hasDiverged()) {
                state = DIVERGED;
            } else if (trace.hasStalled()) {
                state = STALLED;
            } else if (trace.iterations >= limit) {
                state = LIMIT;
            }
        }

        private void takeResidualFromProduct() {
            for (int i = 0; i < equation.order; i++) {
                r[i] = clip((long) equation.b[i] - q[i]);
            }
        }

        private void prepare() {
            Level top = stack.all[0];
            if (kind == BY_SWEEPS || kind == BY_CYCLE) {
                for (int i = 0; i < equation.order; i++) {
                    top.f[i] = SCALE * r[i];
                }
                if (kind == BY_CYCLE) {
                    stack.cycle();
                } else {
                    top.clearValues();
                    top.sweep(UP);
                    top.sweep(DOWN);
                }
                System.arraycopy(top.z, 0, z, 0, equation.order);
                return;
            }
            for (int i = 0; i < equation.order; i++) {
                int pivot = equation.a[i][i];
                boolean divides = kind == BY_DIAGONAL && pivot != 0;
                z[i] = divides ? clip((long) SCALE * r[i] / pivot) : r[i];
            }
        }
    }
}
