/** Promises 24 to 27: covers of one mail, heaps, how many there may be, the next look. */
public final class MailTest {
    private static final int NONE = CoverMarks.NONE, BAD = CoverMarks.BAD;
    private static final Due due = new Due();

    public static void main(String[] args) {
        wrongNumbers();
        mails();
        heaps();
        many();
        manyWithFewDays();
        looks();
        looksAtEdges();
        looksWithDie();
        due.end();
    }

    private static CoverMarks withDies() {
        CoverMarks x = new CoverMarks();
        x.office(0, 0, 999);
        x.office(0, 100, 199);
        x.die(0, 3, 0, 999, NONE);
        x.die(0, 3, 0, 999, NONE);
        x.die(1, 3, 0, 999, 150);
        return x;
    }

    private static int put(CoverMarks x, int cover, int die, String date, int looked) {
        return x.mark(cover, 0, die, 0, NONE, Due.date(date), NONE, looked);
    }

    private static void wrongNumbers() {
        CoverMarks x = withDies();
        int[][] bad = {{-1, 0, 0}, {8, 0, 0}, {0, 8, 0}, {0, -1, 0}, {3, 3, 0}, {0, 1, -1}, {0, 1, 1000}};
        for (int[] b : bad) {
            due.is("mail bad", x.mail(b[0], b[1], b[2]), BAD);
        }
        int[][] wrong = {{-1, 0}, {8, 0}, {0, -1}, {0, 1000}};
        for (int[] b : wrong) {
            due.is("heap bad", x.heap(b[0], b[1]), BAD);
            due.is("look bad", x.look(b[0], b[1]), BAD);
        }
        due.is("many bad", x.many(-1, 0), BAD);
        due.is("many bad", x.many(3, 0), BAD);
        due.is("many bad", x.many(NONE, 0), BAD);
        due.is("many bad", x.many(0, -1), BAD);
        due.is("many bad", x.many(0, 1000), BAD);
        due.is("many of a die without marks", x.many(2, 999), 0);
    }

    private static void mails() {
        CoverMarks x = withDies();
        put(x, 0, 0, "12?", 0);
        put(x, 1, 0, "1?9", 3);
        put(x, 2, 1, "12?", 0);
        put(x, 3, NONE, "12?", 0);
        put(x, 4, NONE, "12?", 0);
        put(x, 5, 0, "13?", 0);
        due.is("one day of both, not yet", x.mail(0, 1, 2), 0);
        due.is("one day of both", x.mail(0, 1, 3), 1);
        due.is("one day of both, the other way", x.mail(1, 0, 3), 1);
        due.is("another die", x.mail(0, 2, 999), 0);
        due.is("no die", x.mail(3, 4, 999), 0);
        due.is("one without a die", x.mail(0, 3, 999), 0);
        due.is("no day of both", x.mail(0, 5, 999), 0);
        due.is("139", x.mail(1, 5, 999), 1);
        due.is("a cover without marks", x.mail(0, 7, 999), 0);
        put(x, 6, 2, "14?", 0);
        x.mark(7, 0, 2, 0, 1, Due.date("14?"), NONE, 0);
        due.is("a nick keeps them apart", x.mail(6, 7, 999), 0);
        x.mark(7, 0, 2, 1, 0, Due.date("149"), NONE, 9);
        due.is("another mark brings them together", x.mail(6, 7, 9), 1);
        due.is("but not ahead of its look", x.mail(6, 7, 8), 0);
    }

    private static void heaps() {
        CoverMarks x = withDies();
        // a chain 7 - 0 - 6 - 1 - 5, one day further each
        int[] covers = {7, 0, 6, 1, 5};
        for (int i = 0; i < covers.length; i++) {
            put(x, covers[i], 0, "10" + i, 0);
            put(x, covers[i], 0, "10" + (i + 1), i);
        }
        put(x, 2, 1, "100", 0);
        put(x, 3, 1, "100", 0);
        due.is("heap(5, 999)", x.heap(5, 999), 0b11100011);
        due.is("heap(7, 999)", x.heap(7, 999), 0b11100011);
        due.is("heap(6, 999)", x.heap(6, 999), 0b11100011);
        due.is("heap(7, 0)", x.heap(7, 0), 0b10000001);
        due.is("heap(7, 1)", x.heap(7, 1), 0b11000001);
        due.is("heap(5, 1)", x.heap(5, 1), 0b00100000);
        due.is("heap(2, 0)", x.heap(2, 0), 0b00001100);
        due.is("heap(4, 0)", x.heap(4, 0), 0b00010000);
    }

    private static void many() {
        CoverMarks x = withDies();
        put(x, 0, 0, "12?", 0);
        due.is("n 1, s 10, t 0", x.many(0, 0), 46);
        put(x, 0, 0, "1?5", 1);
        due.is("one cover, two marks: s 19", x.many(0, 1), 1 + 19 * 18 / 2);
        put(x, 1, 0, "12?", 2);
        due.is("n 2, s 9, t 10", x.many(0, 2), 2 + 81 / 20);
        put(x, 2, 0, "121", 3);
        due.is("n 3, s 9, t 9", x.many(0, 3), 3 + 81 / 18);
        put(x, 3, 0, "121", 4);
        due.is("a day of four", x.many(0, 4), 4 + 81 / 18);
        put(x, 4, 1, "???", 4);
        due.is("another die", x.many(0, 4), 4 + 81 / 18);
        due.is("that die: all days", x.many(1, 4), 1 + 1000 * 999 / 2);
        x.mark(5, 0, 0, 2, NONE, Due.date("???"), NONE, 5);
        due.is("a mark of no day", x.many(0, 5), 5 + 81 / 18);
        put(x, 6, 2, "1?1", 6);
        put(x, 7, 2, "1?1", 6);
        due.is("n 2, s 0, t 10", x.many(2, 6), 2);
        put(x, 5, 2, "1?1", 7);
        due.is("n 3, s 0, t 0", x.many(2, 7), 3);
        due.is("ahead of all looks", x.many(2, 5), 0);
    }

    private static void manyWithFewDays() {
        CoverMarks x = withDies();
        put(x, 0, 0, "12?", 0);
        put(x, 1, 0, "125", 0);
        due.is("n 2, s 9, t 1", x.many(0, 0), 2 + 81 / 2);
        put(x, 2, 0, "999", 0);
        put(x, 3, 0, "000", 0);
        due.is("n 4, s 11, t 1", x.many(0, 0), 4 + 121 / 2);
        put(x, 4, 1, "000", 0);
        due.is("n 1, s 1, t 0", x.many(1, 0), 1);
    }

    private static void looksAtEdges() {
        CoverMarks x = new CoverMarks();
        x.office(0, 0, 999);
        // days of which one byte is the same: to read it tells nothing
        int[][] days = {{0, 0}, {999, 999}, {0, 9}, {990, 999}, {0, 1}, {998, 999}, {9, 10}, {99, 100}};
        int[] want = {NONE, NONE, 2, 2, 2, 2, 1, 0};
        for (int i = 0; i < days.length; i++) {
            x.die(0, 1, days[i][0], days[i][1], NONE);
            put(x, i, i, "???", 0);
            due.is("look at days " + days[i][0] + " to " + days[i][1], x.look(i, 0), want[i] == NONE ? NONE : 3 * i + want[i]);
        }
    }

    private static void looks() {
        CoverMarks x = withDies();
        put(x, 0, NONE, "123", 0);
        due.is("nothing torn", x.look(0, 999), NONE);
        put(x, 0, NONE, "???", 1);
        due.is("all torn: the first byte", x.look(0, 1), 3);
        put(x, 0, NONE, "?2?", 2);
        due.is("two torn", x.look(0, 2), 6);
        put(x, 0, NONE, "12?", 3);
        due.is("one torn", x.look(0, 3), 11);
        put(x, 0, NONE, "1?2", 4);
        due.is("of several the first", x.look(0, 4), 11);
        due.is("as of 2", x.look(0, 2), 6);
        due.is("as of 0", x.look(0, 0), NONE);
        due.is("another cover", x.look(1, 999), NONE);
    }

    private static void looksWithDie() {
        CoverMarks x = withDies();
        // die 2 has days 100 to 199 alone: its first byte tells nothing
        put(x, 0, 2, "???", 0);
        due.is("the second byte", x.look(0, 0), 1);
        put(x, 1, 2, "?23", 0);
        due.is("one day whatever it is", x.look(1, 0), NONE);
        x.mark(2, 0, 2, 2, NONE, Due.date("???"), NONE, 0);
        due.is("no day at all", x.look(2, 0), NONE);
        x.mark(3, 0, 2, 0, 1, Due.date("???"), NONE, 0);
        due.is("150 to 199: five by the third byte", x.look(3, 0), 11);
        x.die(0, 1, 195, 203, NONE);
        put(x, 4, 3, "???", 0);
        due.is("195 to 203: one by the third byte", x.look(4, 0), 14);
        x.die(0, 1, 198, 201, NONE);
        put(x, 5, 4, "?9?", 0);
        due.is("198, 199: the third byte", x.look(5, 0), 17);
    }
}
