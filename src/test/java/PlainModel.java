import java.util.ArrayList;
import java.util.Arrays;
import java.util.List;
import java.util.TreeMap;

/**
 * The document read a second time, with no care for speed or room: levels are made anew for each
 * question, a product is reckoned whole when its last row is done, cycles call themselves, and all
 * arithmetic is checked for leaving 64 bits.
 */
final class PlainModel {
    static final long LARGE = 524288;
    static final long HELD = 1L << 36;

    /** How often something rare was met, so that a test can see that it was tried. */
    final TreeMap<String, Integer> met;

    final int n;
    final int w;
    final long[][] a;
    final long[] b;
    long[] x;
    int state = 0;
    List<Long> history = new ArrayList<>();
    int recounts = 0;
    long[] r;
    long[] p;
    long former;
    boolean plainDirection;
    boolean inRecount;
    boolean[] rowDone;
    int method;
    int kind;
    int tolerance;
    int limit;

    PlainModel(int order, int workers, TreeMap<String, Integer> met) {
        n = Math.max(1, Math.min(12, order));
        w = Math.max(1, Math.min(4, workers));
        a = new long[n][n];
        b = new long[n];
        x = new long[n];
        r = new long[n];
        p = new long[n];
        this.met = met;
    }

    private void meet(String what) {
        met.merge(what, 1, Integer::sum);
    }

    private static long limitTo(long v, long most) {
        return Math.max(-most, Math.min(most, v));
    }

    private long clip(long v) {
        if (Math.abs(v) > LARGE) {
            meet("clip");
        }
        return limitTo(v, LARGE);
    }

    private static long mul(long u, long v) {
        return Math.multiplyExact(u, v);
    }

    private static long add(long u, long v) {
        return Math.addExact(u, v);
    }

    private boolean inside(int i) {
        return 0 <= i && i < n;
    }

    private long[] product(long[] v) {
        long[] outcome = new long[n];
        for (int i = 0; i < n; i++) {
            for (int j = 0; j < n; j++) {
                outcome[i] = clip(add(outcome[i], mul(a[i][j], v[j])));
            }
        }
        return outcome;
    }

    private long dot(long[] u, long[] v) {
        long[] blocks = new long[3];
        for (int i = 0; i < n; i++) {
            long sum = add(blocks[i / 4], mul(u[i], v[i]));
            if (Math.abs(sum) > HELD) {
                meet("block held");
            }
            blocks[i / 4] = limitTo(sum, HELD);
        }
        long all = 0;
        for (long block : blocks) {
            if (Math.abs(all + block) > HELD) {
                meet("dot held");
            }
            all = limitTo(add(all, block), HELD);
        }
        return all;
    }

    private static long size(long[] v) {
        return Arrays.stream(v).map(Math::abs).max().getAsLong();
    }

    boolean set(int i, int j, int v) {
        if (state == 1 || !inside(i) || !inside(j) || v < -99 || v > 99) {
            return false;
        }
        a[i][j] = v;
        return true;
    }

    boolean load(int i, int v) {
        if (state == 1 || !inside(i) || v < -LARGE || v > LARGE) {
            return false;
        }
        b[i] = v;
        return true;
    }

    boolean guess(int i, int v) {
        if (state == 1 || !inside(i) || v < -LARGE || v > LARGE) {
            return false;
        }
        x[i] = v;
        return true;
    }

    long solution(int i) {
        return inside(i) ? x[i] : 0;
    }

    long residual(int i) {
        return inside(i) ? r[i] : 0;
    }

    int bound(int k) {
        if (k < 0 || k > w) {
            return -1;
        }
        if (k == 0 || k == w) {
            return k == 0 ? 0 : n;
        }
        for (int s = 0; s <= n; s++) {
            if (w * filledBelow(s) >= k * filledBelow(n)) {
                return s;
            }
        }
        throw new IllegalStateException("no bound");
    }

    private int filledBelow(int s) {
        int filled = 0;
        for (int i = 0; i < s; i++) {
            for (long v : a[i]) {
                filled += v != 0 ? 1 : 0;
            }
        }
        return filled;
    }

    /** A level: its matrix, and for each point the chosen point that it joined, or -1. */
    private record Grade(long[][] m, int[] joined, List<Integer> chosen) {
        int groupOf(int i) {
            return chosen.indexOf(joined[i]);
        }
    }

    private List<Grade> grades() {
        List<Grade> all = new ArrayList<>();
        all.add(grade(a));
        while (all.size() < 3) {
            Grade last = all.get(all.size() - 1);
            if (last.m.length < 3 || last.chosen.isEmpty()) {
                break;
            }
            int groups = last.chosen.size();
            long[][] next = new long[groups][groups];
            for (int g = 0; g < groups; g++) {
                for (int h = 0; h < groups; h++) {
                    for (int i = 0; i < last.m.length; i++) {
                        for (int j = 0; j < last.m.length; j++) {
                            if (last.groupOf(i) == g && last.groupOf(j) == h) {
                                next[g][h] += last.m[i][j];
                            }
                        }
                    }
                }
            }
            all.add(grade(next));
        }
        return all;
    }

    private static boolean leans(long[][] m, int i, int j) {
        if (i == j || -m[i][j] <= 0) {
            return false;
        }
        for (int k = 0; k < m.length; k++) {
            if (k != i && 4 * -m[i][j] < -m[i][k]) {
                return false;
            }
        }
        return true;
    }

    private Grade grade(long[][] m) {
        int order = m.length;
        int[] weight = new int[order];
        List<Integer> open = new ArrayList<>();
        List<Integer> chosen = new ArrayList<>();
        for (int i = 0; i < order; i++) {
            open.add(i);
            for (int j = 0; j < order; j++) {
                weight[j] += leans(m, i, j) ? 1 : 0;
            }
        }
        while (true) {
            int best = -1;
            for (int i : open) {
                if (weight[i] > 0 && (best < 0 || weight[i] > weight[best])) {
                    best = i;
                }
            }
            if (best < 0) {
                break;
            }
            chosen.add(best);
            open.remove(Integer.valueOf(best));
            List<Integer> tied = new ArrayList<>();
            for (int i : open) {
                if (leans(m, i, best)) {
                    tied.add(i);
                }
            }
            open.removeAll(tied);
            for (int i : tied) {
                for (int j : open) {
                    weight[j] += leans(m, i, j) ? 1 : 0;
                }
            }
        }
        chosen.sort(null);
        int[] joined = new int[order];
        for (int i = 0; i < order; i++) {
            joined[i] = chosen.contains(i) ? i : -1;
            for (int j : chosen) {
                boolean better = joined[i] < 0 || -m[i][j] > -m[i][joined[i]];
                if (!chosen.contains(i) && leans(m, i, j) && better) {
                    joined[i] = j;
                }
            }
        }
        return new Grade(m, joined, chosen);
    }

    int levels() {
        return grades().size();
    }

    long entry(int level, int i, int j) {
        List<Grade> all = grades();
        if (level < 0 || level >= all.size()) {
            return 0;
        }
        long[][] m = all.get(level).m;
        return 0 <= i && i < m.length && 0 <= j && j < m.length ? m[i][j] : 0;
    }

    int group(int level, int i) {
        List<Grade> all = grades();
        if (level < 0 || level >= all.size() || level == all.size() - 1) {
            return -1;
        }
        return 0 <= i && i < all.get(level).m.length ? all.get(level).groupOf(i) : -1;
    }

    private void sweep(long[][] m, long[] f, long[] z, boolean down) {
        for (int step = 0; step < m.length; step++) {
            int i = down ? m.length - 1 - step : step;
            long sum = 0;
            for (int j = 0; j < m.length; j++) {
                sum = add(sum, j == i ? 0 : mul(m[i][j], z[j]));
            }
            z[i] = m[i][i] == 0 ? z[i] : clip((f[i] - sum) / m[i][i]);
        }
    }

    private long[] cycle(List<Grade> rest, long[] f) {
        Grade here = rest.get(0);
        long[] z = new long[here.m.length];
        sweep(here.m, f, z, false);
        if (rest.size() == 1) {
            sweep(here.m, f, z, true);
            sweep(here.m, f, z, false);
            sweep(here.m, f, z, true);
            return z;
        }
        long[] g = new long[here.chosen.size()];
        for (int i = 0; i < z.length; i++) {
            long rest1 = f[i];
            for (int j = 0; j < z.length; j++) {
                rest1 -= mul(here.m[i][j], z[j]);
            }
            if (here.groupOf(i) >= 0) {
                g[here.groupOf(i)] += rest1;
            }
        }
        for (int k = 0; k < g.length; k++) {
            g[k] = clip(g[k]);
        }
        long[] e = cycle(rest.subList(1, rest.size()), g);
        for (int i = 0; i < z.length; i++) {
            if (here.groupOf(i) >= 0) {
                z[i] = clip(z[i] + e[here.groupOf(i)]);
            }
        }
        sweep(here.m, f, z, true);
        return z;
    }

    private long[] prepared() {
        long[] f = Arrays.stream(r).map(v -> 16 * v).toArray();
        long[] z = new long[n];
        if (kind == 0) {
            return r.clone();
        }
        if (kind == 1) {
            for (int i = 0; i < n; i++) {
                z[i] = a[i][i] == 0 ? r[i] : clip(f[i] / a[i][i]);
            }
            return z;
        }
        if (kind == 2) {
            sweep(a, f, z, false);
            sweep(a, f, z, true);
            return z;
        }
        List<Grade> all = grades();
        meet("cycle over " + all.size() + " levels");
        return cycle(all, f);
    }

    boolean start(int method, int kind, int tolerance, int limit) {
        if (state == 1 || method < 0 || method > 2 || kind < 0 || kind > 3) {
            return false;
        }
        if (tolerance < 0 || tolerance > LARGE || limit < 1 || limit > 40) {
            return false;
        }
        this.method = method;
        this.kind = kind;
        this.tolerance = tolerance;
        this.limit = limit;
        history = new ArrayList<>();
        recounts = 0;
        residualFromX();
        history.add(size(r));
        plainDirection = true;
        inRecount = false;
        if (size(r) <= tolerance) {
            end(2);
        } else {
            state = 1;
            beginIteration();
        }
        return true;
    }

    private void end(int how) {
        state = how;
        meet("state " + how);
    }

    private void residualFromX() {
        long[] ax = product(x);
        for (int i = 0; i < n; i++) {
            r[i] = clip(b[i] - ax[i]);
        }
    }

    private void beginIteration() {
        long[] z = prepared();
        long now = dot(r, z);
        for (int i = 0; i < n; i++) {
            if (method == 1 && !plainDirection) {
                meet("direction follows");
                p[i] = clip(z[i] + mul(now, p[i]) / former);
            } else {
                p[i] = z[i];
            }
        }
        former = now;
        plainDirection = false;
        rowDone = new boolean[n];
    }

    private void allRowsDone() {
        boolean justRecounted = inRecount;
        if (inRecount) {
            inRecount = false;
            recounts++;
            residualFromX();
            plainDirection = true;
            history.set(history.size() - 1, size(r));
            if (size(r) <= tolerance) {
                end(2);
                return;
            }
        } else {
            long[] q = product(p);
            long up = method == 2 ? dot(r, q) : former;
            long down = method == 2 ? dot(q, q) : dot(p, q);
            if (up == 0 || down <= 0) {
                end(4);
                return;
            }
            if (up < 0) {
                meet("N below 0");
            }
            for (int i = 0; i < n; i++) {
                x[i] = clip(x[i] + mul(up, p[i]) / down);
                r[i] = clip(r[i] - mul(up, q[i]) / down);
            }
            history.add(size(r));
            if (size(r) <= tolerance) {
                inRecount = true;
                rowDone = new boolean[n];
                return;
            }
        }
        goOnOrEnd(justRecounted);
    }

    private void goOnOrEnd(boolean justRecounted) {
        int count = count();
        long newest = history.get(count);
        String when = justRecounted ? " after recount" : "";
        if (newest > 16 * history.get(0)) {
            meet("diverged" + when);
            end(5);
        } else if (count >= 5 && least(count - 4, count) >= least(0, count - 5)) {
            meet("stalled" + when);
            end(6);
        } else if (count == limit) {
            meet("limit" + when);
            end(3);
        } else {
            meet("goes on" + when);
            beginIteration();
        }
    }

    private long least(int from, int to) {
        return history.subList(from, to + 1).stream().mapToLong(Long::longValue).min().getAsLong();
    }

    private int leftOf(int k) {
        int left = 0;
        for (int i = bound(k); i < bound(k + 1); i++) {
            left += rowDone[i] ? 0 : 1;
        }
        return left;
    }

    int left(int k) {
        return state != 1 || k < 0 || k >= w ? -1 : leftOf(k);
    }

    int work(int k) {
        if (left(k) <= 0) {
            return -1;
        }
        int left = leftOf(k) - 1;
        rowDone[bound(k + 1) - left - 1] = true;
        boolean all = true;
        for (boolean done : rowDone) {
            all &= done;
        }
        if (all) {
            allRowsDone();
        }
        return left;
    }

    int run(int rows) {
        int done = 0;
        while (state == 1 && done < Math.min(rows, 1000)) {
            int k = 0;
            while (left(k) == 0) {
                k++;
            }
            work(k);
            done++;
        }
        return done;
    }

    boolean cancel() {
        if (state != 1) {
            return false;
        }
        meet(inRecount ? "cancelled in recount" : "cancelled in product");
        end(7);
        return true;
    }

    int count() {
        return Math.max(0, history.size() - 1);
    }

    long history(int k) {
        return state == 0 || k < 0 || k > count() ? -1 : history.get(k);
    }
}
