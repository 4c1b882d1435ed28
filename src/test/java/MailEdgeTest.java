/** Part 4 of the document (one mail, heap, many, next look, count), sentence by sentence: what it says at its edges. */
public final class MailEdgeTest {
    private static final int NONE = CoverMarks.NONE, BAD = CoverMarks.BAD;
    private static final Due due = new Due();

    public static void main(String[] args) {
        oneDayOfBoth();
        marksOfOneDie();
        anyTwoOfTheirMarks();
        twoUnlikeCovers();
        mailAsOfADay();
        heapOfOne();
        heapOfAll();
        heapAsOfADay();
        manyOfNone();
        manyWithoutDaysOfTwo();
        manyWithDaysOfTwo();
        manyRoundedDown();
        daysOfThree();
        marksOfOneCoverTogether();
        marksOfNoDayCount();
        manyAsOfADay();
        manyOfTheLastDie();
        lookAtNothingTorn();
        lookAtEachByte();
        lookBelowAllDays();
        lookFirstOfSeveral();
        lookAtTheLeast();
        lookAtDaysOfADie();
        lookAtTheLastMark();
        lookAsOfADay();
        countsFromEmptyToFull();
        due.end();
    }

    /** Two dies of one office, on all days. */
    private static CoverMarks withDies() {
        CoverMarks x = new CoverMarks();
        x.office(0, 0, 999);
        x.die(0, 1, 0, 999, 500);
        x.die(0, 1, 0, 999, NONE);
        return x;
    }

    private static int put(CoverMarks x, int cover, int die, String date) {
        return x.mark(cover, 0, die, 0, NONE, Due.date(date), NONE, 0);
    }

    /** "a DAY that both of these CAN BE of" */
    private static void oneDayOfBoth() {
        String[][] dates = {{"000", "000"}, {"999", "999"}, {"000", "001"}, {"999", "998"}, {"0??", "?99"}, {"0??", "1??"}, {"12?", "1?9"}, {"12?", "1?9"}, {"12?", "13?"}, {"063", "064"}, {"064", "06?"}};
        int[] want = {1, 1, 0, 0, 1, 0, 1, 1, 0, 0, 1};
        for (int i = 0; i < dates.length; i++) {
            CoverMarks x = withDies();
            put(x, 2, 0, dates[i][0]);
            put(x, 6, 0, dates[i][1]);
            due.is(dates[i][0] + " and " + dates[i][1], x.mail(2, 6, 0), want[i]);
            due.is(dates[i][1] + " and " + dates[i][0], x.mail(6, 2, 0), want[i]);
            due.is("heap of " + dates[i][0] + " and " + dates[i][1], x.heap(2, 0), want[i] == 1 ? 0b1000100 : 0b100);
        }
        // the days of a nick seen and not seen meet on none
        CoverMarks y = withDies();
        y.mark(0, 0, 0, 0, 0, Due.date("???"), NONE, 0);
        y.mark(1, 0, 0, 0, 1, Due.date("???"), NONE, 0);
        due.is("up to 499 and from 500 on", y.mail(0, 1, 0), 0);
        y.mark(2, 0, 0, 0, NONE, Due.date("500"), NONE, 0);
        due.is("500 and from 500 on", y.mail(1, 2, 0), 1);
        due.is("500 and up to 499", y.mail(0, 2, 0), 0);
    }

    /** "have MARKS of one DIE": not of one office, not of none. */
    private static void marksOfOneDie() {
        CoverMarks x = withDies();
        put(x, 0, 0, "100");
        put(x, 1, 1, "100");
        put(x, 2, NONE, "100");
        put(x, 3, NONE, "100");
        due.is("two dies of one office", x.mail(0, 1, 0), 0);
        due.is("no die", x.mail(2, 3, 0), 0);
        due.is("one with, one without a die", x.mail(0, 2, 0), 0);
        due.is("one without, one with a die", x.mail(2, 0, 0), 0);
    }

    private static void anyTwoOfTheirMarks() {
        CoverMarks x = withDies();
        put(x, 0, 1, "100");
        put(x, 0, NONE, "300");
        put(x, 0, 0, "300");
        put(x, 1, 0, "100");
        put(x, 1, 1, "200");
        due.is("days of one die, dies of one day, never both", x.mail(0, 1, 0), 0);
        put(x, 1, 0, "300");
        due.is("the last of each", x.mail(0, 1, 0), 1);
    }

    /** "two unlike COVERS", "BAD: one and the same, too." */
    private static void twoUnlikeCovers() {
        CoverMarks x = withDies();
        for (int cover = 0; cover < 8; cover++) {
            put(x, cover, 0, "100");
        }
        for (int a = 0; a < 8; a++) {
            for (int b = 0; b < 8; b++) {
                due.is("mail(" + a + ", " + b + ")", x.mail(a, b, 0), a == b ? BAD : 1);
            }
        }
        due.is("one and the same that is none", x.mail(8, 8, 0), BAD);
        due.is("one and the same on no day", x.mail(1, 1, 1000), BAD);
    }

    /** "(as of a DAY)" */
    private static void mailAsOfADay() {
        int[] looked = {0, 1, 500, 999};
        for (int day : looked) {
            CoverMarks x = withDies();
            put(x, 0, 0, "100");
            x.mark(1, 0, 0, 0, NONE, Due.date("100"), NONE, day);
            due.is("looked at on " + day, x.mail(0, 1, day), 1);
            due.is("the day ahead of " + day, x.mail(0, 1, day - 1), day == 0 ? BAD : 0);
            due.is("the other way", x.mail(1, 0, day), 1);
            due.is("the other way, the day ahead", x.mail(1, 0, day - 1), day == 0 ? BAD : 0);
        }
    }

    /** "HEAP .. (itself too)" */
    private static void heapOfOne() {
        CoverMarks x = withDies();
        for (int cover = 0; cover < 8; cover++) {
            due.is("without marks", x.heap(cover, 0), 1 << cover);
            put(x, cover, 0, "10" + cover);
            due.is("with a day of its own", x.heap(cover, 0), 1 << cover);
        }
    }

    /** "all that come of it by ONE MAIL, again and again" */
    private static void heapOfAll() {
        int[][] orders = {{0, 1, 2, 3, 4, 5, 6, 7}, {7, 6, 5, 4, 3, 2, 1, 0}, {3, 7, 0, 5, 1, 6, 2, 4}};
        for (int[] order : orders) {
            CoverMarks x = withDies();
            for (int i = 0; i < 8; i++) {
                // each has a day with the next one alone
                put(x, order[i], i % 2, "1" + i + "0");
                put(x, order[i], (i + 1) % 2, "1" + (i + 1) + "0");
            }
            for (int cover = 0; cover < 8; cover++) {
                due.is("a chain of eight, from " + cover, x.heap(cover, 0), 255);
            }
            due.is("its two ends are not of one mail", x.mail(order[0], order[7], 0), 0);
            due.is("nor are two with one between", x.mail(order[0], order[2], 0), 0);
        }
        CoverMarks y = withDies();
        for (int cover = 0; cover < 8; cover++) {
            put(y, cover, 0, cover % 2 + "00");
        }
        due.is("two heaps", y.heap(0, 0), 0b01010101);
        due.is("two heaps", y.heap(7, 0), 0b10101010);
    }

    private static void heapAsOfADay() {
        CoverMarks x = withDies();
        put(x, 0, 0, "100");
        put(x, 2, 0, "200");
        x.mark(1, 0, 0, 0, NONE, Due.date("100"), NONE, 5);
        x.mark(1, 0, 0, 0, NONE, Due.date("200"), NONE, 6);
        due.is("as of 4", x.heap(0, 4), 1);
        due.is("as of 5", x.heap(0, 5), 3);
        due.is("as of 6", x.heap(0, 6), 7);
        due.is("as of 5 from the other side", x.heap(2, 5), 4);
        due.is("as of 999", x.heap(2, 999), 7);
    }

    /** "with n COVERS that have MARKS of it": none. */
    private static void manyOfNone() {
        CoverMarks x = withDies();
        due.is("no mark at all", x.many(0, 999), 0);
        put(x, 0, 1, "???");
        put(x, 1, NONE, "???");
        due.is("no mark of it", x.many(0, 999), 0);
        due.is("no such die", x.many(2, 999), BAD);
        due.is("no die", x.many(NONE, 999), BAD);
    }

    /** "else s times (s - 1) by 2" */
    private static void manyWithoutDaysOfTwo() {
        String[] dates = {"000", "12?", "1??", "???"};
        int[] s = {1, 10, 100, 1000};
        for (int i = 0; i < dates.length; i++) {
            CoverMarks x = withDies();
            put(x, 4, 0, dates[i]);
            due.is("one cover of " + s[i] + " days", x.many(0, 0), 1 + s[i] * (s[i] - 1) / 2);
        }
        CoverMarks y = withDies();
        for (int cover = 0; cover < 8; cover++) {
            put(y, cover, 0, "99" + cover);
            int n = cover + 1;
            due.is(n + " covers of a day each", y.many(0, 0), n + n * (n - 1) / 2);
        }
        // s is 0 and t is 0: a mark of no day
        CoverMarks z = withDies();
        z.mark(0, 0, 0, 1, NONE, Due.date("???"), NONE, 0);
        due.is("one cover of no day", z.many(0, 0), 1);
    }

    /** "with t above 0, s times s by 2 t" */
    private static void manyWithDaysOfTwo() {
        CoverMarks x = withDies();
        put(x, 0, 0, "???");
        put(x, 1, 0, "000");
        due.is("s 999, t 1", x.many(0, 0), 2 + 999 * 999 / 2);
        put(x, 1, 0, "???");
        due.is("s 0, t 1000", x.many(0, 0), 2);
        CoverMarks y = withDies();
        put(y, 0, 0, "999");
        put(y, 1, 0, "999");
        due.is("s 0, t 1", y.many(0, 0), 2);
        put(y, 2, 0, "998");
        due.is("s 1, t 1", y.many(0, 0), 3);
        put(y, 3, 0, "000");
        due.is("s 2, t 1", y.many(0, 0), 4 + 2);
    }

    /** "rounded down" */
    private static void manyRoundedDown() {
        // one day of two covers, s days of one: s times s by 2
        for (int s = 0; s <= 9; s++) {
            CoverMarks x = withDies();
            put(x, 0, 0, "500");
            put(x, 1, 0, "500");
            for (int i = 0; i < s; i++) {
                put(x, 0, 0, "60" + i);
            }
            due.is("s " + s + ", t 1", x.many(0, 0), 2 + s * s / 2);
        }
        // ten days of two covers, s days of one: s times s by 20
        for (int s = 0; s <= 20; s += 4) {
            CoverMarks x = withDies();
            put(x, 0, 0, "50?");
            put(x, 1, 0, "50?");
            for (int i = 0; i < s; i++) {
                put(x, 0, 0, "6" + i / 10 + i % 10);
            }
            due.is("s " + s + ", t 10", x.many(0, 0), 2 + s * s / 20);
        }
    }

    /** "just one COVER's", "just two" */
    private static void daysOfThree() {
        CoverMarks x = withDies();
        int[] s = {10, 0, 0, 0, 0, 0, 0, 0};
        int[] t = {0, 10, 0, 0, 0, 0, 0, 0};
        for (int cover = 0; cover < 8; cover++) {
            put(x, cover, 0, "12?");
            int more = t[cover] > 0 ? s[cover] * s[cover] / (2 * t[cover]) : s[cover] * (s[cover] - 1) / 2;
            due.is((cover + 1) + " covers of the same days", x.many(0, 0), cover + 1 + more);
        }
        put(x, 0, 0, "2?0");
        due.is("ten days of one, none of just two", x.many(0, 0), 8 + 10 * 9 / 2);
        put(x, 1, 0, "200");
        due.is("nine of one, one of two", x.many(0, 0), 8 + 81 / 2);
        put(x, 2, 0, "200");
        due.is("nine of one, one of three", x.many(0, 0), 8 + 9 * 8 / 2);
    }

    private static void marksOfOneCoverTogether() {
        CoverMarks x = withDies();
        put(x, 0, 0, "12?");
        put(x, 0, 0, "12?");
        due.is("two marks of one cover are no two covers", x.many(0, 0), 1 + 45);
        put(x, 0, 0, "13?");
        due.is("their days come together", x.many(0, 0), 1 + 190);
        put(x, 1, 0, "125");
        put(x, 1, 0, "125");
        due.is("one day of two", x.many(0, 0), 2 + 19 * 19 / 2);
    }

    private static void marksOfNoDayCount() {
        CoverMarks x = withDies();
        put(x, 0, 0, "12?");
        x.mark(1, 0, 0, 3, NONE, Due.date("12?"), NONE, 0);
        due.is("n is 2, s is 10", x.many(0, 0), 2 + 45);
        put(x, 2, 1, "12?");
        due.is("another die is not counted", x.many(0, 0), 2 + 45);
    }

    private static void manyAsOfADay() {
        CoverMarks x = withDies();
        x.mark(0, 0, 0, 0, NONE, Due.date("12?"), NONE, 1);
        x.mark(1, 0, 0, 0, NONE, Due.date("12?"), NONE, 998);
        x.mark(2, 0, 0, 0, NONE, Due.date("13?"), NONE, 999);
        due.is("as of 0", x.many(0, 0), 0);
        due.is("as of 1", x.many(0, 1), 46);
        due.is("as of 997", x.many(0, 997), 46);
        due.is("as of 998", x.many(0, 998), 2);
        due.is("as of 999", x.many(0, 999), 3 + 5);
    }

    private static void manyOfTheLastDie() {
        CoverMarks x = States.twelveDies();
        for (int die = 0; die < 12; die++) {
            put(x, die % 8, die, "12?");
        }
        for (int die = 0; die < 12; die++) {
            due.is("many of die " + die, x.many(die, 0), 46);
        }
        due.is("many of die 12", x.many(12, 0), BAD);
    }

    /** "of the torn bytes of a COVER's MARKS' DATES", "NONE" */
    private static void lookAtNothingTorn() {
        CoverMarks x = withDies();
        due.is("no marks", x.look(0, 0), NONE);
        put(x, 0, 0, "123");
        put(x, 0, NONE, "456");
        due.is("nothing torn", x.look(0, 0), NONE);
        put(x, 1, 0, "???");
        due.is("another cover's", x.look(0, 0), NONE);
        due.is("its own", x.look(1, 0), 6);
    }

    /** "3 times the MARK's number and the byte's place" */
    private static void lookAtEachByte() {
        String[] dates = {"?23", "1?3", "12?", "??3", "?2?", "1??", "???"};
        int[] place = {0, 1, 2, 0, 0, 1, 0};
        for (int i = 0; i < dates.length; i++) {
            CoverMarks x = withDies();
            put(x, 1, 0, "???");
            put(x, 0, NONE, dates[i]);
            due.is("look at " + dates[i], x.look(0, 0), 3 + place[i]);
        }
    }

    /** "the greatest of these ten is least, below all DAYS that it CAN BE of" */
    private static void lookBelowAllDays() {
        // the days of a die, and the byte of ??? that tells the most
        int[][] days = {{500, 500}, {500, 501}, {509, 510}, {599, 600}, {500, 509}, {500, 599}, {0, 999}, {0, 0}, {999, 999}, {0, 1}, {998, 999}, {490, 509}};
        int[] want = {NONE, 2, 1, 0, 2, 1, 0, NONE, NONE, 2, 2, 2};
        for (int i = 0; i < days.length; i++) {
            CoverMarks y = new CoverMarks();
            y.office(0, 0, 999);
            y.die(0, 1, days[i][0], days[i][1], NONE);
            put(y, 0, 0, "???");
            due.is("days " + days[i][0] + " to " + days[i][1], y.look(0, 0), want[i]);
        }
        // no day at all: nothing is below none
        CoverMarks z = withDies();
        z.mark(0, 0, 0, 1, NONE, Due.date("???"), NONE, 0);
        due.is("no day", z.look(0, 0), NONE);
        put(z, 0, 0, "12?");
        due.is("one of no day and one of ten", z.look(0, 0), 3 + 2);
    }

    /** "of several the first", "(by MARK, then byte)" */
    private static void lookFirstOfSeveral() {
        CoverMarks x = withDies();
        put(x, 0, NONE, "1?3");
        put(x, 0, NONE, "?23");
        put(x, 0, 0, "12?");
        due.is("of three that leave one day the first", x.look(0, 0), 1);
        CoverMarks y = withDies();
        put(y, 0, NONE, "??3");
        put(y, 0, NONE, "?2?");
        due.is("of four that leave ten days the first", y.look(0, 0), 0);
    }

    /** The least of all: not the mark with the fewest days, not the one that loses the most. */
    private static void lookAtTheLeast() {
        CoverMarks x = new CoverMarks();
        x.office(0, 0, 999);
        x.die(0, 1, 100, 101, NONE);
        x.die(0, 1, 500, 501, NONE);
        put(x, 0, NONE, "???");
        due.is("a thousand days to a hundred", x.look(0, 0), 0);
        put(x, 0, NONE, "1??");
        due.is("a hundred to ten", x.look(0, 0), 3 + 1);
        put(x, 0, 0, "1??");
        due.is("two to one", x.look(0, 0), 6 + 2);
        put(x, 0, NONE, "12?");
        due.is("ten to one come behind them", x.look(0, 0), 6 + 2);
        // with days 500, 501 the first two bytes tell nothing
        put(x, 1, 1, "??0");
        due.is("one day whatever it is", x.look(1, 0), NONE);
        put(x, 1, 1, "50?");
        due.is("the last byte", x.look(1, 0), 3 * 5 + 2);
    }

    private static void lookAtDaysOfADie() {
        CoverMarks x = new CoverMarks();
        x.office(0, 195, 300);
        x.die(0, 1, 0, 204, 200);
        // 195 .. 199 without the nick, 200 .. 204 with it
        x.mark(0, 0, 0, 0, NONE, Due.date("???"), NONE, 0);
        due.is("195 to 204: by the last byte one", x.look(0, 0), 2);
        x.mark(1, 0, 0, 0, 1, Due.date("???"), NONE, 0);
        due.is("200 to 204", x.look(1, 0), 3 + 2);
        x.mark(2, 0, 0, 0, NONE, Due.date("??5"), NONE, 0);
        due.is("195 alone", x.look(2, 0), NONE);
        x.mark(3, 0, 0, 0, NONE, Due.date("?0?"), NONE, 0);
        due.is("200 to 204: the first byte tells nothing", x.look(3, 0), 9 + 2);
    }

    private static void lookAtTheLastMark() {
        CoverMarks x = withDies();
        for (int m = 0; m < 39; m++) {
            put(x, 0, 0, "123");
        }
        due.is("none of 39", x.look(0, 0), NONE);
        put(x, 0, 0, "12?");
        due.is("the fortieth", x.look(0, 0), 3 * 39 + 2);
    }

    private static void lookAsOfADay() {
        CoverMarks x = withDies();
        x.mark(0, 0, NONE, 0, NONE, Due.date("12?"), NONE, 999);
        x.mark(0, 0, NONE, 0, NONE, Due.date("1??"), NONE, 500);
        due.is("as of 499", x.look(0, 499), NONE);
        due.is("as of 500", x.look(0, 500), 3 + 1);
        due.is("as of 998", x.look(0, 998), 3 + 1);
        due.is("as of 999", x.look(0, 999), 2);
    }

    /** Promise 28 */
    private static void countsFromEmptyToFull() {
        int[] full = {8, 12, 40, 20, 12, 600, 1};
        for (int what = 0; what <= 6; what++) {
            due.is("empty: count(" + what + ")", new CoverMarks().count(what), 0);
            due.is("full: count(" + what + ")", States.full().count(what), full[what]);
        }
        for (int what : new int[] {-1, 7, NONE, Integer.MIN_VALUE, Integer.MAX_VALUE}) {
            due.is("count(" + what + ")", States.full().count(what), BAD);
            due.is("count(" + what + ")", new CoverMarks().count(what), BAD);
        }
    }
}
