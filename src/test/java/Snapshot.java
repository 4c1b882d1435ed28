import java.util.ArrayList;
import java.util.List;
import java.util.function.Consumer;
import java.util.function.Supplier;

/**
 * Some 800 answers over all that an object holds. Since an object is good for 512 calls, it is asked in
 * parts, each of a new object of the same state: two states are taken for one if all parts answer the same.
 */
final class Snapshot {
    private static final int PARTS = 4;

    private Snapshot() {
    }

    /** Whether some calls (refused ones, or questions) leave a state as it was. */
    static boolean staysAfter(Supplier<CoverMarks> state, Consumer<CoverMarks> calls) {
        for (int part = 0; part < PARTS; part++) {
            CoverMarks touched = state.get();
            calls.accept(touched);
            if (!answers(state.get(), part).equals(answers(touched, part))) {
                return false;
            }
        }
        return true;
    }

    private static List<Long> answers(CoverMarks x, int part) {
        List<Long> all = new ArrayList<>();
        switch (part) {
            case 0: things(x, all); break;
            case 1: goings(x, all); break;
            case 2: rates(x, all); break;
            default: days(x, all); break;
        }
        return all;
    }

    private static void things(CoverMarks x, List<Long> all) {
        for (int what = 0; what < 7; what++) {
            all.add((long) x.count(what));
        }
        all.add(x.trace());
        for (int m = 0; m < 40; m++) {
            for (int what = 0; what < 5; what++) {
                all.add((long) x.about(m, what));
            }
        }
        for (int a = 0; a < 6; a++) {
            all.add((long) x.town(a, 0));
            for (int b = 0; b < a; b++) {
                all.add((long) x.road(a, b, CoverMarks.NONE));
            }
        }
        for (int s = 0; s < 20; s++) {
            all.add((long) x.late(s, CoverMarks.NONE));
        }
    }

    private static void goings(CoverMarks x, List<Long> all) {
        for (int c = 0; c < 8; c++) {
            all.add((long) x.marks(c, 0));
            all.add((long) x.marks(c, 999));
            all.add((long) x.goes(c, 999, 0));
            all.add((long) x.bars(c, 999));
            all.add((long) x.heap(c, 999));
            all.add((long) x.look(c, 999));
            for (int what = 0; what < 3; what++) {
                all.add((long) x.fewest(c, 999, what));
            }
            for (int other = 0; other < c; other++) {
                all.add((long) x.mail(c, other, 999));
            }
        }
        for (int d = 0; d < 12; d++) {
            all.add((long) x.many(d, 999));
        }
        for (int a = 0; a < 6; a++) {
            for (int b = 0; b < 6; b++) {
                all.add((long) x.soonest(a, 30, b));
            }
        }
    }

    private static void rates(CoverMarks x, List<Long> all) {
        owedOfAllLands(x, all);
        all.add((long) x.count(5));
        all.add((long) x.rates());
        owedOfAllLands(x, all);
        all.add((long) x.count(4));
        all.add((long) x.clear());
    }

    private static void owedOfAllLands(CoverMarks x, List<Long> all) {
        for (int from = 0; from < 3; from++) {
            for (int to = 0; to < 3; to++) {
                for (int what = 0; what < 4; what++) {
                    all.add((long) x.owed(from, to, 5, 16, what));
                }
                all.add((long) x.owed(from, to, 0, 2000, 1));
                for (int what = 0; what < 3; what++) {
                    all.add((long) x.weights(from, to, 5, 7, what));
                }
            }
        }
    }

    private static void days(CoverMarks x, List<Long> all) {
        for (int m = 0; m < 40; m++) {
            for (int what = 0; what < 3; what++) {
                all.add((long) x.span(m, what));
            }
            all.add((long) x.can(m, 110 + m));
            all.add((long) x.lean(3, m));
            all.add((long) x.lean(4, m));
        }
        for (int i = 0; i < 10; i++) {
            all.add((long) x.when(1, 999, i, 0));
            all.add((long) x.when(1, 999, i, 1));
        }
    }
}
