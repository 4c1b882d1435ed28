/** Promises 5 to 10 and 29: marks, their lean and the trace, their days. */
public final class MarkTest {
    private static final int NONE = CoverMarks.NONE, BAD = CoverMarks.BAD, FULL = CoverMarks.FULL;
    private static final Due due = new Due();

    public static void main(String[] args) {
        wrongMarks();
        fullMarks();
        leans();
        abouts();
        spansWithoutDie();
        everyDayOfADate();
        everyDayAlone();
        spansWithDie();
        nicks();
        asOf();
        due.end();
    }

    private static CoverMarks withDie() {
        CoverMarks x = new CoverMarks();
        x.office(3, 0, 999);
        x.die(0, 15, 0, 999, NONE);
        return x;
    }

    private static void wrongMarks() {
        CoverMarks x = withDie();
        int d = Due.date("12?");
        int[][] bad = {{-1, 0, 0, 0, 0, d, 0, 0}, {8, 0, 0, 0, 0, d, 0, 0}, {0, -1, 0, 0, 0, d, 0, 0}, {0, 6, 0, 0, 0, d, 0, 0},
            {0, 0, 1, 0, 0, d, 0, 0}, {0, 0, -1, 0, 0, d, 0, 0}, {0, 0, 0, -1, 0, d, 0, 0}, {0, 0, 0, 4, 0, d, 0, 0},
            {0, 0, 0, NONE, 0, d, 0, 0}, {0, 0, 0, 0, 2, d, 0, 0}, {0, 0, 0, 0, -1, d, 0, 0},
            {0, 0, 0, 0, 0, 0, 0, 0}, {0, 0, 0, 0, 0, -1, 0, 0}, {0, 0, 0, 0, 0, NONE, 0, 0},
            {0, 0, 0, 0, 0, d | 1 << 24, 0, 0}, {0, 0, 0, 0, 0, d | 1 << 31, 0, 0}, {0, 0, 0, 0, 0, Due.date(":00"), 0, 0},
            {0, 0, 0, 0, 0, Due.date("0/0"), 0, 0}, {0, 0, 0, 0, 0, Due.date("00@"), 0, 0}, {0, 0, 0, 0, 0, Due.date("00>"), 0, 0},
            {0, 0, 0, 0, 0, d, -1, 0}, {0, 0, 0, 0, 0, d, 1000, 0}, {0, 0, 0, 0, 0, d, 0, -1}, {0, 0, 0, 0, 0, d, 0, 1000},
            {0, 0, 0, 0, 0, d, 0, NONE}};
        for (int i = 0; i < bad.length; i++) {
            int[] b = bad[i];
            due.is("mark bad " + i, x.mark(b[0], b[1], b[2], b[3], b[4], b[5], b[6], b[7]), BAD);
        }
        due.is("marks", x.count(2), 0);
        due.is("mark(7, 5, 0, 3, 1, 999, 999, 999)", x.mark(7, 5, 0, 3, 1, Due.date("999"), 999, 999), 0);
        due.is("mark(0, 0, NONE, 0, NONE, 000, NONE, 0)", x.mark(0, 0, NONE, 0, NONE, Due.date("000"), NONE, 0), 1);
    }

    private static void fullMarks() {
        CoverMarks x = withDie();
        for (int i = 0; i < 40; i++) {
            due.is("mark", x.mark(i % 8, i % 6, 0, 0, NONE, Due.date("???"), i, 0), i);
        }
        due.is("mark 41st", x.mark(0, 0, 0, 0, NONE, Due.date("???"), 0, 0), FULL);
        due.is("mark 41st bad", x.mark(0, 0, 0, 0, NONE, 0, 0, 0), BAD);
        due.is("mark 39", x.about(39, 3), 39);
        due.is("mark 40", x.about(40, 3), BAD);
    }

    private static void leans() {
        CoverMarks x = withDie();
        x.mark(0, 0, NONE, 3, NONE, Due.date("1?3"), NONE, 0);
        x.mark(0, 0, 0, 2, NONE, Due.date("123"), 0, 0);
        x.mark(0, 0, 0, 0, NONE, Due.date("???"), 999, 0);
        int[][] want = {{10, 18, 10, 24, 13, 5}, {15, 27, 22, 36, 17, 7}, {15, 15, 22, 20, 15, 7}};
        int[] adds = {1, 11, 101, 1011, 10001, 100001};
        long trace = 0;
        for (int m = 0; m < 3; m++) {
            for (int kind = 0; kind < 6; kind++) {
                due.is("lean(" + kind + ", " + m + ")", x.lean(kind, m), want[m][kind]);
                trace += adds[kind];
                due.is("trace", x.trace(), trace);
            }
        }
        due.is("lean(6, 0)", x.lean(6, 0), BAD);
        due.is("lean(-1, 0)", x.lean(-1, 0), BAD);
        due.is("lean(0, 3)", x.lean(0, 3), BAD);
        due.is("lean(0, -1)", x.lean(0, -1), BAD);
        due.is("trace after BAD", x.trace(), trace);
    }

    private static void abouts() {
        CoverMarks x = withDie();
        x.mark(7, 4, 0, 3, 1, Due.date("1?3"), 345, 678);
        x.mark(2, 5, NONE, 3, 1, Due.date("1?3"), NONE, 9);
        int[][] want = {{7, 4, 0, 345, 678}, {2, 5, NONE, NONE, 9}};
        for (int m = 0; m < 2; m++) {
            for (int what = 0; what < 5; what++) {
                due.is("about(" + m + ", " + what + ")", x.about(m, what), want[m][what]);
            }
        }
        due.is("about(0, 5)", x.about(0, 5), BAD);
        due.is("about(0, -1)", x.about(0, -1), BAD);
        due.is("about(2, 0)", x.about(2, 0), BAD);
        due.is("about(-1, 0)", x.about(-1, 0), BAD);
    }

    private static void spansWithoutDie() {
        CoverMarks x = new CoverMarks();
        String[] dates = {"???", "12?", "1?3", "?23", "456", "??9", "000", "999"};
        int[][] want = {{1000, 0, 999}, {10, 120, 129}, {10, 103, 193}, {10, 23, 923}, {1, 456, 456}, {100, 9, 999}, {1, 0, 0}, {1, 999, 999}};
        for (int m = 0; m < dates.length; m++) {
            x.mark(0, 0, NONE, 0, 1, Due.date(dates[m]), NONE, 0);
            for (int what = 0; what < 3; what++) {
                due.is("span " + dates[m] + " " + what, x.span(m, what), want[m][what]);
            }
        }
        due.is("span what 3", x.span(0, 3), BAD);
        due.is("span what -1", x.span(0, -1), BAD);
        due.is("span no mark", x.span(8, 0), BAD);
        due.is("can no mark", x.can(8, 0), BAD);
        due.is("can day 1000", x.can(0, 1000), BAD);
        due.is("can day -1", x.can(0, -1), BAD);
        due.is("can mark -1", x.can(-1, 0), BAD);
    }

    /** An object is good for 512 calls: a hundred days are asked of each. */
    private static void everyDayOfADate() {
        String[] dates = {"???", "12?", "1?3", "?23", "456", "??9", "000", "999"};
        for (String date : dates) {
            CoverMarks x = null;
            for (int day = 0; day < 1000; day++) {
                if (day % 100 == 0) {
                    x = new CoverMarks();
                    x.mark(0, 0, NONE, 0, 1, Due.date(date), NONE, 0);
                }
                boolean fits = String.format("%03d", day).matches(date.replace('?', '.'));
                due.is("can " + date + " " + day, x.can(0, day), fits ? 1 : 0);
            }
        }
    }

    private static void everyDayAlone() {
        for (int first = 0; first < 1000; first += 40) {
            CoverMarks x = new CoverMarks();
            for (int m = 0; m < 40; m++) {
                int day = first + m;
                x.mark(0, 0, NONE, 0, NONE, Due.date(String.format("%03d", day)), NONE, 0);
                due.is("span of day " + day, x.span(m, 0), 1);
                due.is("first of day " + day, x.span(m, 1), day);
                due.is("last of day " + day, x.span(m, 2), day);
            }
        }
    }

    private static void spansWithDie() {
        CoverMarks x = new CoverMarks();
        x.office(0, 100, 200);
        x.die(0, 5, 150, 300, NONE);
        x.die(0, 5, 50, 120, NONE);
        x.die(0, 5, 300, 400, NONE);
        x.die(0, 0, 0, 999, NONE);
        int[][] marks = {{0, 0}, {0, 1}, {0, 2}, {1, 0}, {2, 0}, {3, 0}};
        int[][] want = {{51, 150, 200}, {0, NONE, NONE}, {51, 150, 200}, {21, 100, 120}, {0, NONE, NONE}, {0, NONE, NONE}};
        for (int m = 0; m < marks.length; m++) {
            x.mark(0, 0, marks[m][0], marks[m][1], NONE, Due.date("???"), NONE, 0);
            for (int what = 0; what < 3; what++) {
                due.is("span with die " + m + " " + what, x.span(m, what), want[m][what]);
            }
        }
        due.is("can 149", x.can(0, 149), 0);
        due.is("can 150", x.can(0, 150), 1);
        due.is("can 200", x.can(0, 200), 1);
        due.is("can 201", x.can(0, 201), 0);
    }

    private static void nicks() {
        CoverMarks x = new CoverMarks();
        x.office(0, 0, 999);
        int[] from = {NONE, 0, 500, 999};
        int[] seen = {NONE, 0, 1};
        int[][] want = {{1000, 1000, 0}, {1000, 0, 1000}, {1000, 500, 500}, {1000, 999, 1}};
        for (int d = 0; d < from.length; d++) {
            x.die(0, 1, 0, 999, from[d]);
            for (int s = 0; s < seen.length; s++) {
                int m = x.mark(0, 0, d, 0, seen[s], Due.date("???"), NONE, 0);
                due.is("nick from " + from[d] + " seen " + seen[s], x.span(m, 0), want[d][s]);
            }
        }
        due.is("nicked on its day", x.can(8, 500), 1);
        due.is("nicked ahead of it", x.can(8, 499), 0);
        due.is("whole on its day", x.can(7, 500), 0);
        due.is("whole ahead of it", x.can(7, 499), 1);
    }

    private static void asOf() {
        CoverMarks x = withDie();
        int[] looked = {5, 0, 999, 5};
        for (int m = 0; m < 4; m++) {
            x.mark(m == 3 ? 1 : 0, 0, NONE, 0, NONE, Due.date("???"), NONE, looked[m]);
        }
        due.is("marks(0, 0)", x.marks(0, 0), 1);
        due.is("marks(0, 4)", x.marks(0, 4), 1);
        due.is("marks(0, 5)", x.marks(0, 5), 2);
        due.is("marks(0, 998)", x.marks(0, 998), 2);
        due.is("marks(0, 999)", x.marks(0, 999), 3);
        due.is("marks(1, 999)", x.marks(1, 999), 1);
        due.is("marks(8, 0)", x.marks(8, 0), BAD);
        due.is("marks(-1, 0)", x.marks(-1, 0), BAD);
        due.is("marks(0, -1)", x.marks(0, -1), BAD);
        due.is("marks(0, 1000)", x.marks(0, 1000), BAD);
    }
}
