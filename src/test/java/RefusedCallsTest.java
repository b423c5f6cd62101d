import java.util.Map;
import java.util.function.Supplier;
import java.util.function.ToIntFunction;

/**
 * "A refused call changes nothing": in every state, each call that is refused there is made, and
 * what all other calls answer is the same after it as before it, and the same later on as on an
 * object on which it was not made. The same holds for calls that only ask.
 */
public final class RefusedCallsTest {
    private static final int LARGE = RowTurnSolver.LARGE;
    private static final int NONE = RowTurnSolver.NONE;
    private static final int MIN = Check.MIN;
    private static final int MAX = Check.MAX;
    private static final int NO = 0;
    private static final int RUNNING = 1;

    /** In which states a call is refused. */
    private enum When { ALWAYS, RUNNING, NOT_RUNNING }

    public static void main(String[] args) {
        Check.runAll(RefusedCallsTest.class);
    }

    private static void refused(When when, String call, int answer, ToIntFunction<Watched> made) {
        for (Map.Entry<String, Supplier<Watched>> scene : Scenes.all().entrySet()) {
            boolean running = scene.getValue().get().state() == RUNNING;
            if (when == When.ALWAYS || running == (when == When.RUNNING)) {
                refusedIn(scene.getKey() + ": " + call, scene.getValue(), answer, made);
            }
        }
    }

    private static void refusedIn(String of, Supplier<Watched> scene, int answer, ToIntFunction<Watched> made) {
        Watched x = scene.get();
        Answers before = Answers.of(x);
        Check.due(of, made.applyAsInt(x), answer);
        Answers.of(x).mustBe(before, of + ", then");
        goesOnAlike(of, scene, made);
    }

    /** The rest of the solve and a start after it show what no call tells at once. */
    private static void goesOnAlike(String of, Supplier<Watched> scene, ToIntFunction<Watched> made) {
        Watched with = scene.get();
        made.applyAsInt(with);
        Watched without = scene.get();
        Check.due(of + ", then run(2)", with.run(2), without.run(2));
        Check.due(of + ", then run(1000)", with.run(1000), without.run(1000));
        Answers.of(with).mustBe(Answers.of(without), of + ", at the end");
        with.start(1, 3, 1, 9);
        without.start(1, 3, 1, 9);
        Check.due(of + ", then run(1)", with.run(1), without.run(1));
        Answers.of(with).mustBe(Answers.of(without), of + ", in the next solve");
    }

    private static int of(boolean answer) {
        return answer ? 1 : 0;
    }

    // Promise 2

    private static void setRefused(When when, int i, int j, int v) {
        refused(when, "set(" + i + ", " + j + ", " + v + ")", NO, x -> of(x.set(i, j, v)));
    }

    static void promise2SetOutsideTheRowsChangesNothing() {
        setRefused(When.ALWAYS, -1, 1, 7);
        setRefused(When.ALWAYS, 3, 1, 7);
        setRefused(When.ALWAYS, MIN, 1, 7);
        setRefused(When.ALWAYS, MAX, 1, 7);
    }

    static void promise2SetOutsideTheColumnsChangesNothing() {
        setRefused(When.ALWAYS, 1, -1, 7);
        setRefused(When.ALWAYS, 1, 3, 7);
        setRefused(When.ALWAYS, 1, MIN, 7);
        setRefused(When.ALWAYS, 1, MAX, 7);
    }

    static void promise2SetOfAnEntryTooSmallChangesNothing() {
        setRefused(When.ALWAYS, 1, 1, -100);
        setRefused(When.ALWAYS, 0, 2, -100);
        setRefused(When.ALWAYS, 1, 1, MIN);
    }

    static void promise2SetOfAnEntryTooLargeChangesNothing() {
        setRefused(When.ALWAYS, 1, 1, 100);
        setRefused(When.ALWAYS, 0, 2, 100);
        setRefused(When.ALWAYS, 1, 1, MAX);
    }

    static void promise2SetUnderWayChangesNothing() {
        setRefused(When.RUNNING, 0, 0, 99);
        setRefused(When.RUNNING, 0, 1, 0);
        setRefused(When.RUNNING, 2, 2, -99);
        setRefused(When.RUNNING, 2, 0, -99);
    }

    // Promise 3

    private static void loadRefused(When when, int i, int v) {
        refused(when, "load(" + i + ", " + v + ")", NO, x -> of(x.load(i, v)));
    }

    static void promise3LoadOutsideTheComponentsChangesNothing() {
        loadRefused(When.ALWAYS, -1, 7);
        loadRefused(When.ALWAYS, 3, 7);
        loadRefused(When.ALWAYS, MIN, 7);
        loadRefused(When.ALWAYS, MAX, 7);
    }

    static void promise3LoadOfANumberTooSmallChangesNothing() {
        loadRefused(When.ALWAYS, 1, -LARGE - 1);
        loadRefused(When.ALWAYS, 1, MIN);
    }

    static void promise3LoadOfANumberTooLargeChangesNothing() {
        loadRefused(When.ALWAYS, 1, LARGE + 1);
        loadRefused(When.ALWAYS, 1, MAX);
    }

    static void promise3LoadUnderWayChangesNothing() {
        loadRefused(When.RUNNING, 0, -LARGE);
        loadRefused(When.RUNNING, 1, 7);
        loadRefused(When.RUNNING, 2, LARGE);
    }

    // Promise 4

    private static void guessRefused(When when, int i, int v) {
        refused(when, "guess(" + i + ", " + v + ")", NO, x -> of(x.guess(i, v)));
    }

    static void promise4GuessOutsideTheComponentsChangesNothing() {
        guessRefused(When.ALWAYS, -1, 7);
        guessRefused(When.ALWAYS, 3, 7);
        guessRefused(When.ALWAYS, MIN, 7);
        guessRefused(When.ALWAYS, MAX, 7);
    }

    static void promise4GuessOfANumberTooSmallChangesNothing() {
        guessRefused(When.ALWAYS, 1, -LARGE - 1);
        guessRefused(When.ALWAYS, 1, MIN);
    }

    static void promise4GuessOfANumberTooLargeChangesNothing() {
        guessRefused(When.ALWAYS, 1, LARGE + 1);
        guessRefused(When.ALWAYS, 1, MAX);
    }

    static void promise4GuessUnderWayChangesNothing() {
        guessRefused(When.RUNNING, 0, -LARGE);
        guessRefused(When.RUNNING, 1, 7);
        guessRefused(When.RUNNING, 2, LARGE);
    }

    // Promise 11

    private static void startRefused(When when, int method, int kind, int tolerance, int limit) {
        String call = "start(" + method + ", " + kind + ", " + tolerance + ", " + limit + ")";
        refused(when, call, NO, x -> of(x.start(method, kind, tolerance, limit)));
    }

    static void promise11StartWithAWrongMethodChangesNothing() {
        startRefused(When.ALWAYS, -1, 1, 0, 5);
        startRefused(When.ALWAYS, 3, 1, 0, 5);
        startRefused(When.ALWAYS, MIN, 1, 0, 5);
        startRefused(When.ALWAYS, MAX, 1, 0, 5);
    }

    static void promise11StartWithAWrongKindChangesNothing() {
        startRefused(When.ALWAYS, 0, -1, 0, 5);
        startRefused(When.ALWAYS, 0, 4, 0, 5);
        startRefused(When.ALWAYS, 0, MIN, 0, 5);
        startRefused(When.ALWAYS, 0, MAX, 0, 5);
    }

    static void promise11StartWithAWrongToleranceChangesNothing() {
        startRefused(When.ALWAYS, 0, 1, -1, 5);
        startRefused(When.ALWAYS, 0, 1, LARGE + 1, 5);
        startRefused(When.ALWAYS, 0, 1, MIN, 5);
        startRefused(When.ALWAYS, 0, 1, MAX, 5);
    }

    static void promise11StartWithAWrongLimitChangesNothing() {
        startRefused(When.ALWAYS, 0, 1, 0, 0);
        startRefused(When.ALWAYS, 0, 1, 0, 41);
        startRefused(When.ALWAYS, 0, 1, 0, -1);
        startRefused(When.ALWAYS, 0, 1, 0, MIN);
        startRefused(When.ALWAYS, 0, 1, 0, MAX);
    }

    static void promise11StartUnderWayChangesNothing() {
        startRefused(When.RUNNING, 0, 0, 0, 1);
        startRefused(When.RUNNING, 2, 3, LARGE, 40);
        startRefused(When.RUNNING, 1, 2, 5, 5);
    }

    // Promise 12

    private static void workRefused(When when, int k) {
        refused(when, "work(" + k + ")", NONE, x -> x.work(k));
    }

    static void promise12WorkOfNoWorkerChangesNothing() {
        workRefused(When.ALWAYS, -1);
        workRefused(When.ALWAYS, 2);
        workRefused(When.ALWAYS, MIN);
        workRefused(When.ALWAYS, MAX);
    }

    static void promise12WorkWithoutASolveChangesNothing() {
        workRefused(When.NOT_RUNNING, 0);
        workRefused(When.NOT_RUNNING, 1);
    }

    static void promise12WorkWithoutARowChangesNothing() {
        String of = "worker 0 without a row: work(0)";
        refusedIn(of, Scenes::workerWithoutARow, NONE, x -> x.work(0));
    }

    // Promise 13

    private static void runOfNothing(When when, int rows) {
        refused(when, "run(" + rows + ")", 0, x -> x.run(rows));
    }

    static void promise13RunOfNoRowsChangesNothing() {
        runOfNothing(When.ALWAYS, 0);
        runOfNothing(When.ALWAYS, -1);
        runOfNothing(When.ALWAYS, -1000);
        runOfNothing(When.ALWAYS, MIN);
    }

    static void promise13RunWithoutASolveChangesNothing() {
        runOfNothing(When.NOT_RUNNING, 1);
        runOfNothing(When.NOT_RUNNING, 1000);
        runOfNothing(When.NOT_RUNNING, MAX);
    }

    // Promise 15

    static void promise15CancelWithoutASolveChangesNothing() {
        refused(When.NOT_RUNNING, "cancel()", NO, x -> of(x.cancel()));
    }

    // Promises 5 to 10, 14, 16 to 19: answers change nothing.

    static void promise5To19AskingChangesNothing() {
        for (Map.Entry<String, Supplier<Watched>> scene : Scenes.all().entrySet()) {
            goesOnAlike(scene.getKey() + ": asked all", scene.getValue(), x -> {
                Answers.of(x);
                return 0;
            });
        }
    }
}
