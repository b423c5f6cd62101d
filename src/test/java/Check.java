import java.lang.reflect.InvocationTargetException;
import java.lang.reflect.Method;
import java.util.Arrays;
import java.util.Comparator;

/** Compares answers with what is due, and ends a test with exit code 1 if one was wrong. */
final class Check {
    static final int MIN = Integer.MIN_VALUE;
    static final int MAX = Integer.MAX_VALUE;

    private static final int MOST_TOLD = 40;
    private static String test = "";
    private static int wrong = 0;
    private static int asked = 0;

    private Check() {
    }

    /** Runs each method of a class whose name begins with the promise that it tests. */
    static void runAll(Class<?> tests) {
        Method[] methods = tests.getDeclaredMethods();
        Arrays.sort(methods, Comparator.comparing(Method::getName));
        int ran = 0;
        for (Method method : methods) {
            if (method.getName().startsWith("promise") && method.getParameterCount() == 0) {
                test = method.getName() + ": ";
                runOne(method);
                ran++;
            }
        }
        test = "";
        due("some tests of " + tests.getName() + " ran", ran > 0, true);
        System.out.println(ran + " tests ran");
        end();
    }

    private static void runOne(Method method) {
        try {
            method.invoke(null);
        } catch (InvocationTargetException thrown) {
            thrown.getCause().printStackTrace(System.out);
            due("ended by " + thrown.getCause(), false, true);
        } catch (IllegalAccessException hidden) {
            due("cannot be run: " + hidden, false, true);
        }
    }

    static void due(String call, long got, long want) {
        asked++;
        if (got != want) {
            wrong++;
            if (wrong <= MOST_TOLD) {
                System.out.println(test + call + " answered " + got + ", due is " + want);
            }
        }
    }

    static void due(String call, boolean got, boolean want) {
        due(call, got ? 1 : 0, want ? 1 : 0);
    }

    static boolean allRight() {
        return wrong == 0;
    }

    static void end() {
        System.out.println(asked + " answers looked at, " + wrong + " wrong");
        if (wrong != 0) {
            System.exit(1);
        }
    }

    /** An object with the rows of A as given. */
    static Watched solver(int workers, int[][] rows) {
        Watched x = new Watched(rows.length, workers);
        setAll(x, rows);
        return x;
    }

    /** Entries of 0 are what a new object has, and are not set. */
    static void setAll(Watched x, int[][] rows) {
        for (int i = 0; i < rows.length; i++) {
            for (int j = 0; j < rows[i].length; j++) {
                if (rows[i][j] != 0) {
                    due("set(" + i + ", " + j + ", " + rows[i][j] + ")", x.set(i, j, rows[i][j]), true);
                }
            }
        }
    }

    /** An object of order 1. */
    static Watched oneRow(int a, int b) {
        Watched x = solver(1, new int[][] {{a}});
        loadAll(x, b);
        return x;
    }

    static void loadAll(Watched x, int... b) {
        for (int i = 0; i < b.length; i++) {
            due("load(" + i + ", " + b[i] + ")", x.load(i, b[i]), true);
        }
    }

    static void guessAll(Watched x, int... values) {
        for (int i = 0; i < values.length; i++) {
            due("guess(" + i + ", " + values[i] + ")", x.guess(i, values[i]), true);
        }
    }

    static void start(Watched x, int method, int kind, int tolerance, int limit) {
        String call = "start(" + method + ", " + kind + ", " + tolerance + ", " + limit + ")";
        due(call, x.start(method, kind, tolerance, limit), true);
    }

    static void run(Watched x, int rows, int done) {
        due("run(" + rows + ")", x.run(rows), done);
    }

    static void stateIs(String when, Watched x, int state) {
        due(when + ": state()", x.state(), state);
    }

    static void solutionIs(String when, Watched x, int... values) {
        for (int i = 0; i < values.length; i++) {
            due(when + ": solution(" + i + ")", x.solution(i), values[i]);
        }
    }

    static void residualIs(String when, Watched x, int... values) {
        for (int i = 0; i < values.length; i++) {
            due(when + ": residual(" + i + ")", x.residual(i), values[i]);
        }
    }

    static void leftIs(String when, Watched x, int... left) {
        for (int k = 0; k < left.length; k++) {
            due(when + ": left(" + k + ")", x.left(k), left[k]);
        }
    }

    static void historyIs(String when, Watched x, int... values) {
        due(when + ": count()", x.count(), values.length - 1);
        for (int k = 0; k < values.length; k++) {
            due(when + ": history(" + k + ")", x.history(k), values[k]);
        }
        due(when + ": history(count + 1)", x.history(values.length), RowTurnSolver.NONE);
    }

    static void groupsAre(Watched x, int level, int... groups) {
        for (int i = 0; i < groups.length; i++) {
            due("group(" + level + ", " + i + ")", x.group(level, i), groups[i]);
        }
    }

    static void levelIs(Watched x, int level, int[][] rows) {
        int order = rows.length;
        for (int i = 0; i < order; i++) {
            for (int j = 0; j < order; j++) {
                due("entry(" + level + ", " + i + ", " + j + ")", x.entry(level, i, j), rows[i][j]);
            }
        }
    }

    /** The tridiagonal matrix with one value on and one beside the diagonal. */
    static int[][] chain(int order, int on, int beside) {
        int[][] rows = new int[order][order];
        for (int i = 0; i < order; i++) {
            rows[i][i] = on;
            if (i > 0) {
                rows[i][i - 1] = beside;
                rows[i - 1][i] = beside;
            }
        }
        return rows;
    }
}
