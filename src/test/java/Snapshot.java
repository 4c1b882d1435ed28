import java.util.LinkedHashMap;
import java.util.Map;
import java.util.Set;
import java.util.TreeSet;
import java.util.function.Consumer;
import java.util.function.Supplier;

/**
 * Some 800 answers over all that an object holds. Since an object is good for 512 calls, it is asked in
 * parts, each of a new object of the same state: two states are taken for one if all parts answer the same.
 */
final class Snapshot {
    private static final int PARTS = 4;
    private final CoverMarks x;
    private final Map<String, Long> answers = new LinkedHashMap<>();

    private Snapshot(CoverMarks x) {
        this.x = x;
    }

    /** Whether some calls (refused ones, or questions) leave a state as it was. */
    static boolean staysAfter(Supplier<CoverMarks> state, Consumer<CoverMarks> calls) {
        return changedBy(state, calls).isEmpty();
    }

    /** The questions whose answers are others when some calls have been made. */
    static Set<String> changedBy(Supplier<CoverMarks> state, Consumer<CoverMarks> calls) {
        Set<String> changed = new TreeSet<>();
        for (int part = 0; part < PARTS; part++) {
            CoverMarks touched = state.get();
            calls.accept(touched);
            Map<String, Long> before = answers(state.get(), part);
            Map<String, Long> after = answers(touched, part);
            for (String asked : before.keySet()) {
                if (!before.get(asked).equals(after.get(asked))) {
                    changed.add(asked);
                }
            }
        }
        return changed;
    }

    private static Map<String, Long> answers(CoverMarks x, int part) {
        Snapshot taken = new Snapshot(x);
        switch (part) {
            case 0: taken.things(); break;
            case 1: taken.goings(); break;
            case 2: taken.rates(); break;
            default: taken.days(); break;
        }
        return taken.answers;
    }

    private void ask(String name, int... a) {
        askThen("", name, a);
    }

    private void askThen(String then, String name, int... a) {
        answers.put(then + Calls.told(name, a), Calls.ask(x, name, a));
    }

    private void things() {
        for (int what = 0; what < 7; what++) {
            ask("count", what);
        }
        ask("trace");
        for (int m = 0; m < 40; m++) {
            for (int what = 0; what < 5; what++) {
                ask("about", m, what);
            }
        }
        for (int a = 0; a < 6; a++) {
            ask("town", a, 0);
            for (int b = 0; b < a; b++) {
                ask("road", a, b, CoverMarks.NONE);
            }
        }
        for (int s = 0; s < 20; s++) {
            ask("late", s, CoverMarks.NONE);
        }
    }

    private void goings() {
        for (int c = 0; c < 8; c++) {
            ask("marks", c, 0);
            ask("marks", c, 999);
            ask("goes", c, 999, 0);
            ask("bars", c, 999);
            ask("heap", c, 999);
            ask("look", c, 999);
            for (int what = 0; what < 3; what++) {
                ask("fewest", c, 999, what);
            }
            for (int other = 0; other < c; other++) {
                ask("mail", c, other, 999);
            }
        }
        for (int d = 0; d < 12; d++) {
            ask("many", d, 999);
        }
        for (int a = 0; a < 6; a++) {
            for (int b = 0; b < 6; b++) {
                ask("soonest", a, 30, b);
            }
        }
    }

    private void rates() {
        owedOfAllLands("");
        ask("count", 5);
        ask("rates");
        owedOfAllLands("then ");
        askThen("then ", "count", 4);
        askThen("then ", "clear");
    }

    private void owedOfAllLands(String then) {
        for (int from = 0; from < 3; from++) {
            for (int to = 0; to < 3; to++) {
                for (int what = 0; what < 4; what++) {
                    askThen(then, "owed", from, to, 5, 16, what);
                }
                askThen(then, "owed", from, to, 0, 2000, 1);
                for (int what = 0; what < 3; what++) {
                    askThen(then, "weights", from, to, 5, 7, what);
                }
            }
        }
    }

    private void days() {
        for (int m = 0; m < 40; m++) {
            for (int what = 0; what < 3; what++) {
                ask("span", m, what);
            }
            ask("can", m, 110 + m);
            ask("lean", 3, m);
            ask("lean", 4, m);
        }
        for (int i = 0; i < 10; i++) {
            ask("when", 1, 999, i, 0);
            ask("when", 1, 999, i, 1);
        }
    }
}
