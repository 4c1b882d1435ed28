/** Promises 1 to 4 and 28: a new object, towns, offices, dies, counts. */
public final class OfficeAndDieTest {
    private static final int NONE = CoverMarks.NONE, BAD = CoverMarks.BAD, FULL = CoverMarks.FULL;
    private static final Due due = new Due();

    public static void main(String[] args) {
        newObject();
        towns();
        offices();
        dies();
        counts();
        due.end();
    }

    private static void newObject() {
        CoverMarks x = new CoverMarks();
        for (int what = 0; what <= 6; what++) {
            due.is("new count(" + what + ")", x.count(what), 0);
        }
        due.is("new trace()", x.trace(), 0);
        due.is("new clear()", x.clear(), 0);
        for (int a = 0; a < 6; a++) {
            for (int b = 0; b < 6; b++) {
                due.is("new soonest", x.soonest(a, 7, b), a == b ? 7 : NONE);
            }
        }
        for (int cover = 0; cover < 8; cover++) {
            due.is("new marks", x.marks(cover, 999), 0);
            due.is("new goes", x.goes(cover, 999, 0), 1);
            due.is("new bars", x.bars(cover, 999), NONE);
            due.is("new fewest 0", x.fewest(cover, 999, 0), 0);
            due.is("new fewest 1", x.fewest(cover, 999, 1), 0);
            due.is("new fewest 2", x.fewest(cover, 999, 2), 1);
            due.is("new heap", x.heap(cover, 999), 1 << cover);
            due.is("new look", x.look(cover, 999), NONE);
        }
        due.is("new owed", x.owed(0, 0, 0, 1, 0), NONE);
        due.is("new weights", x.weights(0, 0, 0, 0, 0), 0);
        due.is("new span", x.span(0, 0), BAD);
        due.is("new many", x.many(0, 0), BAD);
        due.is("new late", x.late(0, 0), BAD);
    }

    private static void towns() {
        CoverMarks x = new CoverMarks();
        due.is("town(5, 2)", x.town(5, 2), 0);
        due.is("town(5, 1)", x.town(5, 1), 2);
        due.is("town(5, 3)", x.town(5, 3), BAD);
        due.is("town(5, -1)", x.town(5, -1), BAD);
        due.is("town(5, 0) after BAD", x.town(5, 0), 1);
        due.is("town(6, 0)", x.town(6, 0), BAD);
        due.is("town(-1, 0)", x.town(-1, 0), BAD);
        due.is("town(0, 2)", x.town(0, 2), 0);
        due.is("town(MAX, 2)", x.town(Integer.MAX_VALUE, 2), BAD);
        due.is("town(MIN, 2)", x.town(Integer.MIN_VALUE, 2), BAD);
    }

    private static void offices() {
        CoverMarks x = new CoverMarks();
        int[][] bad = {{-1, 0, 0}, {6, 0, 0}, {0, -1, 5}, {0, 5, 4}, {0, 0, 1000}, {0, 1000, 1000}, {0, NONE, 5}, {0, 0, NONE}};
        for (int[] b : bad) {
            due.is("office bad", x.office(b[0], b[1], b[2]), BAD);
        }
        for (int i = 0; i < 8; i++) {
            due.is("office", x.office(i % 6, i, i == 0 ? 999 : i), i);
        }
        due.is("office 9th", x.office(0, 0, 0), FULL);
        due.is("office 9th bad", x.office(0, 1, 0), BAD);
        due.is("offices", x.count(0), 8);
    }

    private static void dies() {
        CoverMarks x = new CoverMarks();
        due.is("die without office", x.die(0, 1, 0, 9, NONE), BAD);
        x.office(0, 10, 20);
        int[][] bad = {{1, 1, 0, 9, 0}, {-1, 1, 0, 9, 0}, {NONE, 1, 0, 9, 0}, {0, 16, 0, 9, 0}, {0, -1, 0, 9, 0},
            {0, 1, -1, 9, 0}, {0, 1, 9, 8, 0}, {0, 1, 0, 1000, 0}, {0, 1, 0, 9, -1}, {0, 1, 0, 9, 1000}, {0, 1, 0, 9, -8}};
        for (int[] b : bad) {
            due.is("die bad", x.die(b[0], b[1], b[2], b[3], b[4]), BAD);
        }
        due.is("dies", x.count(1), 0);
        int[] nicks = {NONE, 0, 999, 500};
        for (int i = 0; i < 12; i++) {
            due.is("die", x.die(0, i + 4, 0, 999 - i, nicks[i % 4]), i);
        }
        due.is("die 13th", x.die(0, 1, 0, 0, 0), FULL);
        due.is("die 13th bad", x.die(1, 1, 0, 0, 0), BAD);
        due.is("dies", x.count(1), 12);
        due.is("die of no ink", new CoverMarks().die(0, 0, 0, 0, 0), BAD);
        CoverMarks y = new CoverMarks();
        y.office(0, 0, 999);
        due.is("die of no ink with its office", y.die(0, 0, 0, 0, 0), 0);
    }

    private static void counts() {
        CoverMarks x = new CoverMarks();
        x.office(0, 0, 999);
        x.office(1, 0, 999);
        x.die(0, 1, 0, 999, NONE);
        x.die(0, 1, 0, 999, NONE);
        x.die(0, 1, 0, 999, NONE);
        for (int i = 0; i < 4; i++) {
            x.mark(i, 0, NONE, 0, NONE, Due.date("???"), NONE, 0);
        }
        for (int i = 0; i < 5; i++) {
            x.sail(0, 1, i, 9);
        }
        x.late(1, NONE);
        x.late(2, NONE);
        x.late(2, NONE);
        Due.type(x, "rate 0>0,0-0:0 per 1;");
        due.is("rates", x.rates(), 1);
        Due.type(x, "abcdefghij");
        int[] want = {2, 3, 4, 5, 1, 10, 2};
        for (int what = 0; what < 7; what++) {
            due.is("count(" + what + ")", x.count(what), want[what]);
        }
        due.is("count(7)", x.count(7), BAD);
        due.is("count(-1)", x.count(-1), BAD);
        x.late(1, 9);
        due.is("count(6) found again", x.count(6), 1);
    }
}
