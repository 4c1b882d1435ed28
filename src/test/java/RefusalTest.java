import java.util.Arrays;
import java.util.List;
import java.util.function.Supplier;

/**
 * "Refused, and nothing changes, the first of these: BAD, STATE, FULL": calls that are refused in two
 * ways at once, calls refused as FULL or STATE, and that questions change nothing either.
 */
public final class RefusalTest {
    private static final int NONE = CoverMarks.NONE, BAD = CoverMarks.BAD, STATE = CoverMarks.STATE, FULL = CoverMarks.FULL;
    private static final int DATE = Due.date("1?3");
    private static final Due due = new Due();

    /** Of each call that takes numbers: its name, numbers that are good in States.full(), numbers that are not. */
    private static final Object[][] CALLS = {
        {"town", new int[] {1, 2}, new int[] {6, -1}},
        {"office", new int[] {1, 5, 50}, new int[] {6, -1, 1000}},
        {"die", new int[] {1, 3, 5, 50, 20}, new int[] {8, 16, -1, 1000, -1}},
        {"mark", new int[] {1, 2, 0, 1, 1, DATE, 30, 9}, new int[] {8, 6, 12, 4, 2, 0, 1000, 1000}},
        {"lean", new int[] {1, 2}, new int[] {6, 40}},
        {"about", new int[] {1, 2}, new int[] {40, 5}},
        {"span", new int[] {1, 2}, new int[] {40, 3}},
        {"can", new int[] {1, 2}, new int[] {40, 1000}},
        {"marks", new int[] {1, 2}, new int[] {8, 1000}},
        {"sail", new int[] {0, 1, 5, 50}, new int[] {6, -1, -1, 1000}},
        {"late", new int[] {0, 70}, new int[] {20, 1000}},
        {"road", new int[] {0, 1, 5}, new int[] {6, -1, 31}},
        {"soonest", new int[] {0, 1, 2}, new int[] {6, 1000, -1}},
        {"goes", new int[] {1, 9, 1}, new int[] {8, 1000, 1024}},
        {"when", new int[] {1, 9, 0, 1}, new int[] {8, 1000, 10, 2}},
        {"bars", new int[] {1, 9}, new int[] {8, 1000}},
        {"fewest", new int[] {1, 9, 1}, new int[] {8, 1000, 3}},
        {"type", new int[] {65, 1}, new int[] {65, 9}},
        {"owed", new int[] {0, 1, 5, 9, 1}, new int[] {3, -1, 1000, 0, 4}},
        {"weights", new int[] {0, 1, 5, 9, 1}, new int[] {3, -1, 1000, 2000001, 3}},
        {"mail", new int[] {1, 2, 9}, new int[] {8, -1, 1000}},
        {"heap", new int[] {1, 9}, new int[] {8, 1000}},
        {"many", new int[] {1, 9}, new int[] {12, 1000}},
        {"look", new int[] {1, 9}, new int[] {8, 1000}},
        {"count", new int[] {1}, new int[] {7}},
    };

    private static final List<String> CHANGING = List.of("town", "office", "die", "mark", "lean", "sail", "late", "road", "type");

    public static void main(String[] args) {
        statesStand();
        anyTwoNumbersWrong();
        fullAndNothingElse();
        badAheadOfFull();
        stateAndNothingElse();
        badAheadOfState();
        stateAheadOfTheLastBad();
        faultsChangeNothing();
        questionsChangeNothing();
        due.end();
    }

    /** The states that the tests begin with hold what they say, or the tests would ask nothing. */
    private static void statesStand() {
        int[] some = {2, 3, 11, 2, 2, 80, 1};
        int[] full = {8, 12, 40, 20, 12, 600, 1};
        for (int what = 0; what < 7; what++) {
            due.is("some: count " + what, States.some().count(what), some[what]);
            due.is("full: count " + what, States.full().count(what), full[what]);
        }
        due.is("full: marks of cover 0", States.full().marks(0, 999), 11);
        due.is("full: marks of cover 1", States.full().marks(1, 999), 10);
        due.is("some: the text is rates", States.some().rates(), 3);
        due.is("full: the text is rates", States.full().rates(), 12);
        boolean told = Snapshot.staysAfter(States::some, x -> x.lean(0, 0));
        due.is("one more on the trace is seen: it is not", told ? 1 : 0, 0);
        boolean typed = Snapshot.staysAfter(States::some, x -> x.type(' ', 1));
        due.is("one more blank is seen: it is not", typed ? 1 : 0, 0);
    }

    private static void refused(Supplier<CoverMarks> state, int want, String name, int... a) {
        due.is(Calls.told(name, a), Calls.ask(state.get(), name, a), want);
    }

    private static void stays(Supplier<CoverMarks> state, String name, int... a) {
        boolean same = Snapshot.staysAfter(state, x -> Calls.ask(x, name, a));
        due.is(Calls.told(name, a) + " leaves all as it was: this", same ? 1 : 0, 1);
    }

    /** Every set of wrong numbers is BAD, with room (some) and without (full). */
    private static void anyTwoNumbersWrong() {
        for (Object[] call : CALLS) {
            String name = (String) call[0];
            int[] good = (int[]) call[1];
            int[] wrong = (int[]) call[2];
            for (int set = 1; set < 1 << good.length; set++) {
                int[] a = good.clone();
                for (int i = 0; i < a.length; i++) {
                    a[i] = (set >> i & 1) == 1 ? wrong[i] : good[i];
                }
                // the bytes that are typed are never wrong, so a set may leave all as good as it was
                if (!Arrays.equals(a, good)) {
                    refused(States::some, BAD, name, a);
                    refused(States::full, BAD, name, a);
                }
            }
        }
    }

    private static void fullAndNothingElse() {
        refused(States::full, FULL, "office", 1, 5, 50);
        refused(States::full, FULL, "die", 1, 3, 5, 50, 20);
        refused(States::full, FULL, "mark", 1, 2, 0, 1, 1, DATE, 30, 9);
        refused(States::full, FULL, "sail", 0, 1, 5, 50);
        refused(States::full, FULL, "type", 65, 1);
        refused(States::full, FULL, "type", 65, 8);
        stays(States::full, "office", 1, 5, 50);
        stays(States::full, "die", 1, 3, 5, 50, 20);
        stays(States::full, "mark", 1, 2, 0, 1, 1, DATE, 30, 9);
        stays(States::full, "sail", 0, 1, 5, 50);
        stays(States::full, "type", 65, 1);
        stays(States::full, "type", 65, 8);
        // what is full is each row by itself: the others still take what comes
        CoverMarks x = new CoverMarks();
        for (int i = 0; i < 8; i++) {
            x.office(0, 0, 999);
        }
        due.is("office 9th", x.office(0, 0, 999), FULL);
        due.is("a die while offices are full", x.die(7, 1, 0, 999, NONE), 0);
        due.is("a mark while offices are full", x.mark(0, 0, 0, 0, NONE, DATE, NONE, 0), 0);
        due.is("a sailing while offices are full", x.sail(0, 1, 0, 0), 0);
        due.is("bytes while offices are full", x.type(65, 1), 1);
    }

    private static void badAheadOfFull() {
        // numbers that are wrong by each other, too
        refused(States::full, BAD, "office", 1, 50, 49);
        refused(States::full, BAD, "die", 1, 3, 50, 49, 20);
        refused(States::full, BAD, "sail", 0, 1, 50, 49);
        refused(States::full, BAD, "sail", 1, 1, 5, 50);
        refused(States::full, BAD, "type", 65, 0);
        refused(States::full, BAD, "type", 65, 9);
        stays(States::full, "office", 1, 50, 49);
        stays(States::full, "die", 1, 3, 50, 49, 20);
        stays(States::full, "mark", 8, 2, 0, 1, 1, DATE, 30, 9);
        stays(States::full, "sail", 1, 1, 5, 50);
        stays(States::full, "type", 65, 9);
    }

    private static void stateAndNothingElse() {
        // cover 0 has eleven marks with a die
        refused(States::full, STATE, "goes", 0, 999, 0);
        refused(States::full, STATE, "when", 0, 999, 0, 0);
        refused(States::full, STATE, "when", 0, 999, 10, 1);
        refused(States::full, STATE, "bars", 0, 999);
        for (int what = 0; what < 3; what++) {
            refused(States::full, STATE, "fewest", 0, 999, what);
        }
        stays(States::full, "goes", 0, 999, 0);
        stays(States::full, "when", 0, 999, 0, 0);
        stays(States::full, "bars", 0, 999);
        stays(States::full, "fewest", 0, 999, 1);
    }

    private static void badAheadOfState() {
        int[] notDays = {-1, 1000, NONE, Integer.MIN_VALUE, Integer.MAX_VALUE};
        for (int day : notDays) {
            refused(States::full, BAD, "goes", 0, day, 0);
            refused(States::full, BAD, "when", 0, day, 0, 0);
            refused(States::full, BAD, "bars", 0, day);
            refused(States::full, BAD, "fewest", 0, day, 0);
        }
        int[] notSides = {-1, 2, NONE, Integer.MIN_VALUE, Integer.MAX_VALUE};
        for (int side : notSides) {
            refused(States::full, BAD, "when", 0, 999, 0, side);
        }
        int[] notAsked = {-1, 3, NONE, Integer.MIN_VALUE, Integer.MAX_VALUE};
        for (int what : notAsked) {
            refused(States::full, BAD, "fewest", 0, 999, what);
        }
    }

    /** "BAD; STATE; then BAD": bits beyond its marks, no such mark. */
    private static void stateAheadOfTheLastBad() {
        for (int bit = 0; bit < 32; bit++) {
            refused(States::full, STATE, "goes", 0, 999, 1 << bit);
            refused(States::full, bit < 10 ? refusedOrNot(1 << bit) : BAD, "goes", 1, 999, 1 << bit);
        }
        int[] noPlaces = {-1, 11, 40, NONE, Integer.MIN_VALUE, Integer.MAX_VALUE};
        for (int i : noPlaces) {
            refused(States::full, STATE, "when", 0, 999, i, 0);
            refused(States::full, BAD, "when", 1, 999, i, 0);
            refused(States::full, BAD, "when", 0, 999, i, 2);
        }
        refused(States::full, STATE, "goes", 0, 999, -1);
        refused(States::full, BAD, "goes", 1, 999, -1);
        stays(States::full, "goes", 0, 999, 2048);
        stays(States::full, "goes", 1, 999, 1024);
        stays(States::full, "when", 0, 999, 11, 0);
        stays(States::full, "when", 1, 999, 10, 0);
    }

    /** A bit of one of its marks is taken, whether or not the cover goes then. */
    private static int refusedOrNot(int letBe) {
        int answer = States.full().goes(1, 999, letBe);
        due.is("goes with a bit of its marks is 0 or 1: that it is", answer == 0 || answer == 1 ? 1 : 0, 1);
        return answer;
    }

    private static void faultsChangeNothing() {
        String[] ends = {"x", "rate", "rate 0>1,0-9:5 per 9", "\u0000", "00", ";"};
        for (String end : ends) {
            Supplier<CoverMarks> state = () -> {
                CoverMarks x = States.some();
                Due.type(x, end);
                return x;
            };
            due.is("rates() with a fault is below -10 or so: this", state.get().rates() <= -10 ? 1 : 0, 1);
            stays(state, "rates");
        }
    }

    private static void questionsChangeNothing() {
        for (Object[] call : CALLS) {
            String name = (String) call[0];
            if (!CHANGING.contains(name)) {
                stays(States::full, name, (int[]) call[1]);
                stays(States::some, name, (int[]) call[1]);
            }
        }
        stays(States::full, "trace");
        stays(States::some, "trace");
    }
}
