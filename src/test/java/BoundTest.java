import java.util.ArrayList;
import java.util.List;
import java.util.function.Supplier;

/**
 * Each number of each call: the last values that are taken, the first that are refused on each side,
 * numbers far away, and NONE with its neighbours; that the refused ones leave all as it was.
 */
public final class BoundTest {
    private static final int NONE = CoverMarks.NONE, BAD = CoverMarks.BAD;
    private static final int TORN_DATE = Due.date("???");
    private static final Due due = new Due();

    public static void main(String[] args) {
        officesAndDies();
        coversAndMarks();
        ways();
        goings();
        rates();
        mailsAndLooks();
        numbersOfFullRows();
        numbersOfEmptyRows();
        bytesOfDates();
        due.end();
    }

    // ---- one number of a call

    private static void bound(String name, int[] good, int place, int low, int high) {
        bound(States::some, name, good, place, low, high, false);
    }

    private static void boundOrNone(String name, int[] good, int place, int low, int high) {
        bound(States::some, name, good, place, low, high, true);
    }

    private static void bound(Supplier<CoverMarks> state, String name, int[] good, int place, int low, int high, boolean orNone) {
        taken(state, name, with(good, place, low));
        taken(state, name, with(good, place, high));
        if (orNone) {
            taken(state, name, with(good, place, NONE));
        }
        List<int[]> refused = new ArrayList<>();
        int[] outside = {low - 1, high + 1, -1, -2, -3, NONE, NONE - 1, NONE + 1, Integer.MIN_VALUE, Integer.MAX_VALUE, high + 256, high + 65536};
        for (int value : outside) {
            boolean in = value >= low && value <= high || orNone && value == NONE;
            if (!in) {
                refused.add(with(good, place, value));
            }
        }
        refused(state, name, refused);
    }

    private static int[] with(int[] good, int place, int value) {
        int[] a = good.clone();
        a[place] = value;
        return a;
    }

    private static void taken(Supplier<CoverMarks> state, String name, int[] a) {
        long answer = Calls.ask(state.get(), name, a);
        due.is(Calls.told(name, a) + " is refused (1) or taken (0): it", Calls.isRefusal(answer) ? 1 : 0, 0);
    }

    private static void refused(Supplier<CoverMarks> state, String name, List<int[]> calls) {
        for (int[] a : calls) {
            due.is(Calls.told(name, a), Calls.ask(state.get(), name, a), BAD);
        }
        boolean stays = Snapshot.staysAfter(state, x -> {
            for (int[] a : calls) {
                Calls.ask(x, name, a);
            }
        });
        due.is(name + " refused as " + Calls.told(name, calls.get(0)) + " and its like leaves all as it was: this", stays ? 1 : 0, 1);
    }

    // ---- the calls, in the order of the face

    private static void officesAndDies() {
        bound("town", new int[] {1, 2}, 0, 0, 5);
        bound("town", new int[] {1, 2}, 1, 0, 2);

        bound("office", new int[] {1, 5, 50}, 0, 0, 5);
        bound("office", new int[] {1, 5, 50}, 1, 0, 50);
        bound("office", new int[] {1, 5, 50}, 2, 5, 999);
        bound("office", new int[] {1, 5, 999}, 1, 0, 999);
        bound("office", new int[] {1, 0, 50}, 2, 0, 999);

        bound("die", new int[] {1, 3, 5, 50, 20}, 0, 0, 1);
        bound("die", new int[] {1, 3, 5, 50, 20}, 1, 0, 15);
        bound("die", new int[] {1, 3, 5, 50, 20}, 2, 0, 50);
        bound("die", new int[] {1, 3, 5, 50, 20}, 3, 5, 999);
        bound("die", new int[] {1, 3, 5, 999, 20}, 2, 0, 999);
        bound("die", new int[] {1, 3, 0, 50, 20}, 3, 0, 999);
        boundOrNone("die", new int[] {1, 3, 5, 50, 20}, 4, 0, 999);
    }

    private static void coversAndMarks() {
        int[] mark = {1, 2, 0, 1, 1, TORN_DATE, 30, 9};
        bound("mark", mark, 0, 0, 7);
        bound("mark", mark, 1, 0, 5);
        boundOrNone("mark", mark, 2, 0, 2);
        bound("mark", mark, 3, 0, 3);
        boundOrNone("mark", mark, 4, 0, 1);
        boundOrNone("mark", mark, 6, 0, 999);
        bound("mark", mark, 7, 0, 999);
        // what is told of an ink and a nick holds for a mark without a die, too
        bound("mark", with(mark, 2, NONE), 3, 0, 3);
        boundOrNone("mark", with(mark, 2, NONE), 4, 0, 1);

        bound("lean", new int[] {1, 2}, 0, 0, 5);
        bound("lean", new int[] {1, 2}, 1, 0, 10);
        bound("about", new int[] {1, 2}, 0, 0, 10);
        bound("about", new int[] {1, 2}, 1, 0, 4);
        bound("span", new int[] {1, 2}, 0, 0, 10);
        bound("span", new int[] {1, 2}, 1, 0, 2);
        bound("can", new int[] {1, 2}, 0, 0, 10);
        bound("can", new int[] {1, 2}, 1, 0, 999);
        bound("marks", new int[] {1, 2}, 0, 0, 7);
        bound("marks", new int[] {1, 2}, 1, 0, 999);
    }

    private static void ways() {
        bound("sail", new int[] {2, 1, 5, 50}, 0, 2, 5);
        bound("sail", new int[] {2, 3, 5, 50}, 0, 0, 2);
        bound("sail", new int[] {0, 4, 5, 50}, 1, 1, 5);
        bound("sail", new int[] {5, 4, 5, 50}, 1, 0, 4);
        bound("sail", new int[] {0, 1, 5, 50}, 2, 0, 50);
        bound("sail", new int[] {0, 1, 5, 999}, 2, 0, 999);
        // that a sailing is lost is told by late() alone
        bound("sail", new int[] {0, 1, 5, 50}, 3, 5, 999);
        bound("sail", new int[] {0, 1, 0, 50}, 3, 0, 999);

        bound("late", new int[] {0, 70}, 0, 0, 1);
        boundOrNone("late", new int[] {0, 70}, 1, 10, 999);
        boundOrNone("late", new int[] {1, 70}, 1, 62, 999);

        bound("road", new int[] {2, 1, 5}, 0, 2, 5);
        bound("road", new int[] {2, 3, 5}, 0, 0, 2);
        bound("road", new int[] {0, 4, 5}, 1, 1, 5);
        bound("road", new int[] {5, 4, 5}, 1, 0, 4);
        boundOrNone("road", new int[] {0, 1, 5}, 2, 1, 30);

        bound("soonest", new int[] {1, 2, 3}, 0, 0, 5);
        bound("soonest", new int[] {1, 2, 3}, 1, 0, 999);
        bound("soonest", new int[] {1, 2, 3}, 2, 0, 5);
        bound("soonest", new int[] {3, 2, 3}, 1, 0, 999);
    }

    private static void goings() {
        bound("goes", new int[] {0, 9, 1}, 0, 0, 7);
        bound("goes", new int[] {0, 9, 1}, 1, 0, 999);
        // cover 0 has three marks with a die, cover 1 has one
        bound("goes", new int[] {0, 9, 1}, 2, 0, 7);
        bound("goes", new int[] {1, 9, 1}, 2, 0, 1);

        bound("when", new int[] {0, 9, 0, 1}, 0, 0, 7);
        bound("when", new int[] {0, 9, 0, 1}, 1, 0, 999);
        bound("when", new int[] {0, 9, 0, 1}, 2, 0, 2);
        bound("when", new int[] {1, 9, 0, 1}, 2, 0, 0);
        bound("when", new int[] {0, 9, 0, 1}, 3, 0, 1);

        bound("bars", new int[] {0, 9}, 0, 0, 7);
        bound("bars", new int[] {0, 9}, 1, 0, 999);

        bound("fewest", new int[] {0, 9, 1}, 0, 0, 7);
        bound("fewest", new int[] {0, 9, 1}, 1, 0, 999);
        bound("fewest", new int[] {0, 9, 1}, 2, 0, 2);
    }

    private static void rates() {
        bound("type", new int[] {65, 3}, 1, 1, 8);

        int[] owed = {0, 1, 50, 20, 1};
        bound("owed", owed, 0, 0, 2);
        bound("owed", owed, 1, 0, 2);
        bound("owed", owed, 2, 0, 999);
        bound("owed", owed, 3, 1, 2000);
        bound("owed", owed, 4, 0, 3);

        int[] weights = {0, 1, 50, 22, 1};
        bound("weights", weights, 0, 0, 2);
        bound("weights", weights, 1, 0, 2);
        bound("weights", weights, 2, 0, 999);
        bound("weights", weights, 3, 0, 2000000);
        bound("weights", weights, 4, 0, 2);
    }

    private static void mailsAndLooks() {
        bound("mail", new int[] {2, 1, 9}, 0, 2, 7);
        bound("mail", new int[] {2, 3, 9}, 0, 0, 2);
        bound("mail", new int[] {0, 4, 9}, 1, 1, 7);
        bound("mail", new int[] {7, 4, 9}, 1, 0, 6);
        bound("mail", new int[] {0, 1, 9}, 2, 0, 999);

        bound("heap", new int[] {0, 9}, 0, 0, 7);
        bound("heap", new int[] {0, 9}, 1, 0, 999);
        bound("many", new int[] {0, 9}, 0, 0, 2);
        bound("many", new int[] {0, 9}, 1, 0, 999);
        bound("look", new int[] {0, 9}, 0, 0, 7);
        bound("look", new int[] {0, 9}, 1, 0, 999);
        bound("count", new int[] {3}, 0, 0, 6);
    }

    // ---- the last number that there is, where as many are there as may be, and where there are none

    private static void numbersOfFullRows() {
        bound(States::eightOffices, "die", new int[] {1, 3, 5, 50, 20}, 0, 0, 7, false);
        bound(States::twelveDies, "mark", new int[] {1, 2, 0, 1, 1, TORN_DATE, 30, 9}, 2, 0, 11, true);
        bound(States::full, "many", new int[] {0, 9}, 0, 0, 11, false);
        bound(States::full, "late", new int[] {0, 999}, 0, 0, 19, false);
        bound(States::full, "lean", new int[] {1, 2}, 1, 0, 39, false);
        bound(States::full, "about", new int[] {1, 2}, 0, 0, 39, false);
        bound(States::full, "span", new int[] {1, 2}, 0, 0, 39, false);
        bound(States::full, "can", new int[] {1, 2}, 0, 0, 39, false);
        // cover 1 has ten marks with a die
        bound(States::full, "goes", new int[] {1, 9, 1}, 2, 0, 1023, false);
        bound(States::full, "when", new int[] {1, 9, 0, 1}, 2, 0, 9, false);
    }

    private static void numbersOfEmptyRows() {
        int[] numbers = {0, 1, -1, NONE, Integer.MIN_VALUE, Integer.MAX_VALUE};
        Supplier<CoverMarks> none = CoverMarks::new;
        noNumber(none, "die", new int[] {0, 3, 5, 50, 20}, 0, numbers);
        noNumber(none, "mark", new int[] {1, 2, 0, 1, 1, TORN_DATE, 30, 9}, 2, new int[] {0, 1, -1, -10});
        noNumber(none, "lean", new int[] {1, 0}, 1, numbers);
        noNumber(none, "about", new int[] {0, 0}, 0, numbers);
        noNumber(none, "span", new int[] {0, 0}, 0, numbers);
        noNumber(none, "can", new int[] {0, 0}, 0, numbers);
        noNumber(none, "late", new int[] {0, 5}, 0, numbers);
        noNumber(none, "late", new int[] {0, NONE}, 0, numbers);
        noNumber(none, "many", new int[] {0, 0}, 0, numbers);
        noNumber(none, "when", new int[] {0, 0, 0, 0}, 2, numbers);
        noNumber(none, "goes", new int[] {0, 0, 0}, 2, new int[] {1, 2, -1, NONE, Integer.MIN_VALUE, Integer.MAX_VALUE});
        taken(none, "mark", new int[] {1, 2, NONE, 1, 1, TORN_DATE, 30, 9});
        taken(none, "goes", new int[] {0, 0, 0});
    }

    private static void noNumber(Supplier<CoverMarks> state, String name, int[] good, int place, int[] numbers) {
        List<int[]> calls = new ArrayList<>();
        for (int number : numbers) {
            calls.add(with(good, place, number));
        }
        refused(state, name, calls);
    }

    // ---- "three bytes, each 0 .. 9 or ?"

    private static void bytesOfDates() {
        List<int[]> refused = new ArrayList<>();
        for (int place = 0; place < 3; place++) {
            int shift = 16 - 8 * place;
            for (int sign = 0; sign < 256; sign++) {
                int date = Due.date("5?7") & ~(255 << shift) | sign << shift;
                int[] a = {1, 2, 0, 1, 1, date, 30, 9};
                if (sign >= '0' && sign <= '9' || sign == '?') {
                    taken(States::some, "mark", a);
                } else {
                    due.is(Calls.told("mark", a), States.some().mark(1, 2, 0, 1, 1, date, 30, 9), BAD);
                    if (sign == '0' - 1 || sign == '9' + 1 || sign == '?' - 1 || sign == '?' + 1 || sign == 0 || sign == 255) {
                        refused.add(a);
                    }
                }
            }
        }
        // a fourth byte is one too many, whatever it is
        for (int fourth : new int[] {1, ' ', '0', '9', '?', 127, 128, 255}) {
            refused.add(new int[] {1, 2, 0, 1, 1, fourth << 24 | Due.date("123"), 30, 9});
        }
        refused.add(new int[] {1, 2, 0, 1, 1, NONE, 30, 9});
        refused.add(new int[] {1, 2, 0, 1, 1, 0, 30, 9});
        refused.add(new int[] {1, 2, 0, 1, 1, 123, 30, 9});
        // two bytes alone
        refused.add(new int[] {1, 2, 0, 1, 1, Due.date("012") & 0xFFFF, 30, 9});
        refused(States::some, "mark", refused);
    }
}
