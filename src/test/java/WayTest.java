/** Promises 11 to 14: sailings, roads, the soonest day. */
public final class WayTest {
    private static final int NONE = CoverMarks.NONE, BAD = CoverMarks.BAD, FULL = CoverMarks.FULL;
    private static final Due due = new Due();

    public static void main(String[] args) {
        sailings();
        lateOnes();
        roads();
        soonestBySea();
        soonestByBoth();
        due.end();
    }

    private static void sailings() {
        CoverMarks x = new CoverMarks();
        int[][] bad = {{-1, 0, 0, 0}, {6, 0, 0, 0}, {0, 6, 0, 0}, {0, -1, 0, 0}, {3, 3, 0, 0}, {0, 1, -1, 0}, {0, 1, 1000, 1000},
            {0, 1, 5, 4}, {0, 1, 5, 1000}, {0, 1, 5, NONE}, {0, 1, NONE, 5}};
        for (int[] b : bad) {
            due.is("sail bad", x.sail(b[0], b[1], b[2], b[3]), BAD);
        }
        due.is("sailings", x.count(3), 0);
        for (int i = 0; i < 20; i++) {
            due.is("sail", x.sail(i % 6, (i + 1) % 6, i, i == 0 ? 0 : 999), i);
        }
        due.is("sail 21st", x.sail(0, 1, 0, 0), FULL);
        due.is("sail 21st bad", x.sail(0, 0, 0, 0), BAD);
        due.is("sailings", x.count(3), 20);
    }

    private static void lateOnes() {
        CoverMarks x = new CoverMarks();
        x.sail(0, 1, 10, 20);
        due.is("late(0, 9)", x.late(0, 9), BAD);
        due.is("late(0, 1000)", x.late(0, 1000), BAD);
        due.is("late(0, -1)", x.late(0, -1), BAD);
        due.is("late(1, 20)", x.late(1, 20), BAD);
        due.is("late(-1, 20)", x.late(-1, 20), BAD);
        due.is("late(0, 999)", x.late(0, 999), 20);
        due.is("soonest then", x.soonest(0, 0, 1), 999);
        due.is("late(0, NONE)", x.late(0, NONE), 999);
        due.is("soonest when lost", x.soonest(0, 0, 1), NONE);
        due.is("lost", x.count(6), 1);
        due.is("late(0, 10)", x.late(0, 10), NONE);
        due.is("soonest when found", x.soonest(0, 10, 1), 10);
        due.is("lost none", x.count(6), 0);
    }

    private static void roads() {
        CoverMarks x = new CoverMarks();
        int[][] bad = {{-1, 0, 1}, {0, 6, 1}, {6, 0, 1}, {2, 2, 1}, {0, 1, 0}, {0, 1, 31}, {0, 1, -1}};
        for (int[] b : bad) {
            due.is("road bad", x.road(b[0], b[1], b[2]), BAD);
        }
        due.is("road(0, 1, 30)", x.road(0, 1, 30), NONE);
        due.is("road(1, 0, 1)", x.road(1, 0, 1), 30);
        due.is("road both ways", x.soonest(0, 5, 1), 6);
        due.is("road both ways", x.soonest(1, 5, 0), 6);
        due.is("road(0, 1, NONE)", x.road(0, 1, NONE), 1);
        due.is("road(1, 0, NONE)", x.road(1, 0, NONE), NONE);
        due.is("no road", x.soonest(0, 5, 1), NONE);
    }

    private static void soonestBySea() {
        CoverMarks x = new CoverMarks();
        due.is("soonest(6, 0, 0)", x.soonest(6, 0, 0), BAD);
        due.is("soonest(0, 0, 6)", x.soonest(0, 0, 6), BAD);
        due.is("soonest(0, -1, 0)", x.soonest(0, -1, 0), BAD);
        due.is("soonest(0, 1000, 0)", x.soonest(0, 1000, 0), BAD);
        due.is("soonest(-1, 0, 0)", x.soonest(-1, 0, 0), BAD);
        due.is("soonest(0, 0, -1)", x.soonest(0, 0, -1), BAD);
        due.is("soonest of the town itself", x.soonest(4, 999, 4), 999);
        // told from behind, so that each round of a reader may find one sailing only
        x.sail(4, 5, 50, 50);
        x.sail(3, 4, 50, 50);
        x.sail(2, 3, 50, 50);
        x.sail(1, 2, 50, 50);
        x.sail(0, 1, 50, 50);
        due.is("five on one day", x.soonest(0, 50, 5), 50);
        due.is("five, waited for", x.soonest(0, 0, 5), 50);
        due.is("five, too late", x.soonest(0, 51, 5), NONE);
        due.is("not the other way", x.soonest(5, 0, 0), NONE);
        x.late(2, 51);
        due.is("one late", x.soonest(0, 50, 5), NONE);
        due.is("as far as it goes", x.soonest(0, 50, 3), 51);
    }

    private static void soonestByBoth() {
        CoverMarks x = new CoverMarks();
        x.road(0, 1, 10);
        x.road(1, 2, 10);
        x.road(0, 2, 30);
        due.is("two roads", x.soonest(0, 100, 2), 120);
        x.sail(1, 2, 111, 113);
        due.is("road and sailing", x.soonest(0, 100, 2), 113);
        due.is("road and sailing, to the day", x.soonest(0, 101, 2), 113);
        due.is("sailing missed", x.soonest(0, 102, 2), 122);
        x.sail(2, 0, 113, 114);
        due.is("to where one is", x.soonest(0, 100, 0), 100);
        due.is("day 999 at most", x.soonest(0, 979, 2), 999);
        due.is("beyond day 999", x.soonest(0, 980, 2), NONE);
        due.is("first part alone", x.soonest(0, 989, 1), 999);
        due.is("first part beyond", x.soonest(0, 990, 1), NONE);
    }
}
