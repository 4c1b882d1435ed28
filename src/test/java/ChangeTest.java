import java.util.Set;
import java.util.TreeSet;
import java.util.function.Consumer;

/** Each call that changes something changes what its promise says, and no other of some 800 answers. */
public final class ChangeTest {
    private static final int NONE = CoverMarks.NONE;
    private static final Due due = new Due();

    public static void main(String[] args) {
        officesAndDies();
        marksAndLean();
        sailingsAndRoads();
        textAndRates();
        sameAgain();
        due.end();
    }

    private static void changes(String call, Consumer<CoverMarks> made, String... want) {
        Set<String> changed = Snapshot.changedBy(States::some, made);
        Set<String> all = new TreeSet<>(changed);
        all.addAll(Set.of(want));
        for (String asked : all) {
            due.is(call + " changes " + asked + " (1: yes): it", changed.contains(asked) ? 1 : 0, Set.of(want).contains(asked) ? 1 : 0);
        }
        due.is(call + " changes so many answers: it", changed.size(), want.length);
    }

    private static void officesAndDies() {
        changes("town(2, 1)", x -> x.town(2, 1), "town(2, 0)");
        changes("town(1, 0)", x -> x.town(1, 0), "town(1, 0)");
        changes("office(2, 1, 5)", x -> x.office(2, 1, 5), "count(0)");
        changes("die(1, 15, 1, 5, NONE)", x -> x.die(1, 15, 1, 5, NONE), "count(1)", "many(3, 999)");
    }

    private static void marksAndLean() {
        // of a cover that has such days already, and a date with nothing torn: all else of it stays
        String[] ofAMark = {"count(2)", "about(11, 0)", "about(11, 1)", "about(11, 2)", "about(11, 3)", "about(11, 4)", "can(11, 121)",
            "lean(3, 11)", "lean(4, 11)", "marks(3, 999)", "span(11, 0)", "span(11, 1)", "span(11, 2)"};
        changes("a mark without a die", x -> x.mark(3, 5, NONE, 2, 1, Due.date("123"), 77, 9), ofAMark);
        changes("a mark with a die", x -> x.mark(3, 5, 0, 0, NONE, Due.date("123"), NONE, 9), ofAMark);
        for (int kind = 0; kind < 6; kind++) {
            int asked = kind;
            changes("lean(" + kind + ", 1)", x -> x.lean(asked, 1), "trace()");
        }
    }

    private static void sailingsAndRoads() {
        changes("sail(4, 5, 30, 31)", x -> x.sail(4, 5, 30, 31), "count(3)", "late(2, -9)", "soonest(4, 30, 5)");
        changes("sail(4, 5, 29, 31)", x -> x.sail(4, 5, 29, 31), "count(3)", "late(2, -9)");
        changes("late(0, 999)", x -> x.late(0, 999), "late(0, -9)");
        changes("late(0, NONE)", x -> x.late(0, NONE), "count(6)", "late(0, -9)");
        changes("late(1, 65)", x -> x.late(1, 65), "count(6)", "late(1, -9)",
            "soonest(0, 30, 2)", "soonest(0, 30, 3)", "soonest(1, 30, 2)", "soonest(1, 30, 3)");
        changes("road(4, 5, 3)", x -> x.road(4, 5, 3), "road(5, 4, -9)", "soonest(4, 30, 5)", "soonest(5, 30, 4)");
        changes("road(1, 0, NONE)", x -> x.road(1, 0, NONE), "road(1, 0, -9)", "soonest(0, 30, 1)", "soonest(1, 30, 0)",
            "goes(0, 999, 0)", "bars(0, 999)", "fewest(0, 999, 0)", "fewest(0, 999, 1)");
    }

    private static void textAndRates() {
        changes("type(' ', 1)", x -> x.type(' ', 1), "count(5)");
        changesOnly("clear()", x -> x.clear(), "count(5)", "rates()", "then ");
        changesOnly("rates()", x -> x.rates(), "count(4)", "count(5)", "rates()", "owed(", "weights(", "then ");
    }

    /** Where many answers change: how those begin that may. */
    private static void changesOnly(String call, Consumer<CoverMarks> made, String... begins) {
        Set<String> changed = Snapshot.changedBy(States::some, made);
        for (String begin : begins) {
            due.is(call + " changes what begins with " + begin, changed.stream().anyMatch(asked -> asked.startsWith(begin)) ? 1 : 0, 1);
        }
        for (String asked : changed) {
            boolean may = false;
            for (String begin : begins) {
                may |= asked.startsWith(begin);
            }
            due.is(call + " changes " + asked + ", and may (1): it", may ? 1 : 0, 1);
        }
    }

    /** What becomes what it was is no change. */
    private static void sameAgain() {
        changes("town(1, 1)", x -> x.town(1, 1));
        changes("late(0, 60)", x -> x.late(0, 60));
        changes("late(1, NONE)", x -> x.late(1, NONE));
        changes("road(1, 0, 4)", x -> x.road(1, 0, 4));
        changes("road(4, 5, NONE)", x -> x.road(4, 5, NONE));
        changes("a road there and away again", x -> {
            x.road(4, 5, 1);
            x.road(5, 4, NONE);
        });
        changes("a sailing that is lost and found", x -> {
            x.late(0, NONE);
            x.late(0, 60);
        });
    }
}
