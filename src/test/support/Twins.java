import java.util.ArrayList;
import java.util.IdentityHashMap;
import java.util.List;
import java.util.Map;

/**
 * Whether a call changed anything: two stores are made by the same script, one of them takes the call, and both are
 * asked all that can be asked, and what later calls would answer. A store is promised for 512 calls only, so the
 * questions are shared out among many stores; a script has 150 calls at most.
 */
final class Twins {
    private static final int QUESTIONS_OF_A_STORE = 300;
    private static final int SMALL_ROW = 12;
    private static final int[] SOME_KEYS = {0, 1, 57, 100, 198, 199};

    private record Question(String name, Checks.Call call) { }

    private static final Map<Checks.Script, List<Question>> QUESTIONS = new IdentityHashMap<>();
    private static final Map<Checks.Script, List<String>> ANSWERS = new IdentityHashMap<>();

    private Twins() {
    }

    /** The call is refused with this answer, and nothing has changed. */
    static void refused(String name, Checks.Script script, String want, Checks.Call call) {
        Checks.due(name, want, Checks.answer(Checks.made(script), call));
        unchanged(name, script, call);
    }

    static void unchanged(String name, Checks.Script script, Checks.Call call) {
        List<Question> questions = QUESTIONS.computeIfAbsent(script, Twins::questions);
        List<String> before = ANSWERS.computeIfAbsent(script, s -> answers(s, questions, x -> 0));
        List<String> after = answers(script, questions, call);
        for (int i = 0; i < before.size(); i++) {
            if (!before.get(i).equals(after.get(i))) {
                String asked = i < questions.size() ? questions.get(i).name() : "a later call";
                Checks.due("behind " + name + ", " + asked, before.get(i), after.get(i));
                return;
            }
        }
    }

    private static List<String> answers(Checks.Script script, List<Question> questions, Checks.Call call) {
        List<String> answers = new ArrayList<>();
        RowStore x = null;
        for (int i = 0; i < questions.size(); i++) {
            if (i % QUESTIONS_OF_A_STORE == 0) {
                x = Checks.made(script);
                Checks.answer(x, call);
            }
            answers.add(Checks.answer(x, questions.get(i).call()));
        }
        RowStore y = Checks.made(script);
        Checks.answer(y, call);
        later(y, answers);
        return answers;
    }

    private static List<Question> questions(Checks.Script script) {
        List<Question> all = new ArrayList<>();
        ofTheWhole(all);
        ofLevels(all);
        ofThings(all, Checks.made(script));
        ofKeys(all);
        ofViews(all);
        return all;
    }

    private static void add(List<Question> all, String name, Checks.Call call) {
        all.add(new Question(name, call));
    }

    private static void ofTheWhole(List<Question> all) {
        for (int i = 0; i < 40; i++) {
            int n = i;
            add(all, "count(" + n + ")", x -> x.count(n));
            add(all, "waste(" + n + ")", x -> x.waste(n));
            add(all, "toll(" + n + ")", x -> x.toll(n));
            add(all, "nth(" + n + ")", x -> x.nth(n));
            add(all, "due(" + n + ")", x -> x.due(n));
        }
        for (int n : new int[] {0, 1, 2, 5, 64}) {
            add(all, "calm(" + n + ")", x -> x.calm(n));
            for (int i = 0; i < 5; i++) {
                int what = i;
                add(all, "ahead(" + n + ", " + what + ")", x -> x.ahead(n, what));
            }
        }
    }

    private static void ofLevels(List<Question> all) {
        for (int k = 0; k < 9; k++) {
            int level = k;
            for (int w = 0; w < 9; w++) {
                int what = w;
                add(all, "level(" + level + ", " + what + ")", x -> x.level(level, what));
            }
            for (int r = 0; r < Checks.rowsOf(level); r++) {
                int row = r;
                for (int w = 0; w < 6; w++) {
                    int what = w;
                    add(all, "row(" + level + ", " + row + ", " + what + ")", x -> x.row(level, row, what));
                }
                for (int key : SOME_KEYS) {
                    add(all, "falls(" + key + ", " + level + ", " + row + ")", x -> x.falls(key, level, row));
                    add(all, "bounds(" + key + ", " + level + ", " + row + ")", x -> x.bounds(key, level, row, true));
                }
            }
        }
    }

    private static void ofThings(List<Question> all, RowStore made) {
        for (int k = 0; k < 9; k++) {
            for (int r = 0; r < Checks.rowsOf(k); r++) {
                int level = k;
                int row = r;
                int things = made.row(level, row, 1);
                int entries = made.row(level, row, 2);
                for (int n = 0; n < things; n++) {
                    int i = n;
                    add(all, "thing(" + level + ", " + row + ", " + i + ", 0)", x -> x.thing(level, row, i, 0));
                    add(all, "thing(" + level + ", " + row + ", " + i + ", 1)", x -> x.thing(level, row, i, 1));
                }
                for (int n = 0; n < 4 * entries && entries <= SMALL_ROW; n++) {
                    int i = n / 4;
                    int what = n % 4;
                    add(all, "entry(" + level + ", " + row + ", " + i + ", " + what + ")",
                            x -> x.entry(level, row, i, what));
                }
            }
        }
    }

    private static void ofKeys(List<Question> all) {
        for (int k = 0; k < 200; k++) {
            int key = k;
            add(all, "find(" + key + ")", x -> x.find(key));
            add(all, "looks(" + key + ", false)", x -> x.looks(key, false));
            add(all, "looks(" + key + ", true)", x -> x.looks(key, true));
            add(all, "trace(" + key + ", 0)", x -> x.trace(key, 0));
        }
        for (int key : SOME_KEYS) {
            add(all, "next(" + key + ")", x -> x.next(key));
            add(all, "many(0, " + key + ")", x -> x.many(0, key));
            add(all, "route(" + key + ", NONE, 0)", x -> x.route(key, Checks.NONE, 0));
            for (int w = 0; w < 6; w++) {
                int what = w;
                add(all, "route(" + key + ", 0, " + what + ")", x -> x.route(key, 0, what));
            }
        }
    }

    private static void ofViews(List<Question> all) {
        for (int v = 0; v < 3; v++) {
            int view = v;
            for (int k = 0; k < 200; k++) {
                int key = k;
                add(all, "seen(" + view + ", " + key + ")", x -> x.seen(view, key));
            }
            for (int n = 0; n < 4; n++) {
                int what = n;
                add(all, "against(" + view + ", " + what + ")", x -> x.against(view, what));
                add(all, "between(" + view + ", " + what + ")", x -> x.between(view, what));
            }
        }
    }

    /** What no question shows, as the tape's bytes or which of two rows is younger, shows in what comes of them. */
    private static void later(RowStore x, List<String> answers) {
        for (int i = 0; i < 3; i++) {
            int view = i;
            answers.add(Checks.answer(x, y -> y.batch(y.count(13))));
            answers.add(Checks.answer(x, y -> y.put(40 * view, 5)));
            answers.add(Checks.answer(x, y -> y.drop(40 * view + 1)));
            answers.add(Checks.answer(x, y -> y.steps(9)));
            answers.add(Checks.answer(x, y -> y.feed(view, 2, 3, 4, 5)));
            told(x, answers);
            answers.add(Checks.answer(x, y -> y.restore(view)));
            told(x, answers);
            answers.add(Checks.answer(x, y -> y.leave(view)));
        }
        answers.add(Checks.answer(x, y -> y.pack()));
        told(x, answers);
    }

    private static void told(RowStore x, List<String> answers) {
        for (int i = 0; i < 16; i++) {
            int n = i;
            answers.add(Checks.answer(x, y -> y.count(n)));
            answers.add(Checks.answer(x, y -> y.level(n, 2)));
            answers.add(Checks.answer(x, y -> y.find(13 * n)));
        }
    }
}
