import java.util.LinkedHashMap;
import java.util.Map;

/** What all calls that only ask answer, each of them also with arguments just outside. */
final class Answers {
    private final Map<String, Integer> all = new LinkedHashMap<>();

    private Answers() {
    }

    /** Of an object of Scenes' order and workers; some 150 calls. */
    static Answers of(Watched x) {
        Answers answers = new Answers();
        answers.ofVectors(x);
        answers.ofLevels(x);
        answers.ofSolve(x);
        return answers;
    }

    private void ofVectors(Watched x) {
        for (int i = -1; i <= Scenes.ORDER; i++) {
            all.put("solution(" + i + ")", x.solution(i));
            all.put("residual(" + i + ")", x.residual(i));
        }
    }

    private void ofLevels(Watched x) {
        all.put("levels()", x.levels());
        for (int k = -1; k <= Scenes.WORKERS + 1; k++) {
            all.put("bound(" + k + ")", x.bound(k));
        }
        for (int level = -1; level <= 3; level++) {
            for (int i = -1; i <= Scenes.ORDER; i++) {
                all.put("group(" + level + ", " + i + ")", x.group(level, i));
                for (int j = 0; j < Scenes.ORDER; j++) {
                    all.put("entry(" + level + ", " + i + ", " + j + ")", x.entry(level, i, j));
                }
            }
        }
    }

    private void ofSolve(Watched x) {
        all.put("state()", x.state());
        all.put("count()", x.count());
        all.put("recounts()", x.recounts());
        for (int k = -1; k <= Scenes.WORKERS; k++) {
            all.put("left(" + k + ")", x.left(k));
        }
        int count = x.count();
        for (int k = -1; k <= count + 1; k++) {
            all.put("history(" + k + ")", x.history(k));
        }
    }

    void mustBe(Answers due, String when) {
        Check.due(when + ": answers", all.size(), due.all.size());
        for (Map.Entry<String, Integer> one : due.all.entrySet()) {
            int got = all.getOrDefault(one.getKey(), Integer.MIN_VALUE);
            Check.due(when + ": " + one.getKey(), got, one.getValue());
        }
    }
}
