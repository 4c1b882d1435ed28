/** Part 1 of the document (towns, offices, dies, covers, marks), sentence by sentence: what it says at its edges. */
public final class MarkEdgeTest {
    private static final int NONE = CoverMarks.NONE, BAD = CoverMarks.BAD, FULL = CoverMarks.FULL;
    private static final Due due = new Due();

    public static void main(String[] args) {
        nothingIsThereAtFirst();
        landsAreZeroAtFirst();
        eightOffices();
        fromADayToADay();
        twelveDies();
        inksOfADie();
        fortyMarks();
        fortyMarksOfOneCover();
        lookedAtByThen();
        leanWithADie();
        leanByBytesOfTheDate();
        leanWithASum();
        leanByAThird();
        leanByInk();
        leanByHalf();
        traceByBodies();
        aboutAtItsEdges();
        tornBytesFitAny();
        datesAtTheEnds();
        officeThereAtBothEnds();
        dieInUseAtBothEnds();
        officeAndDieTogether();
        oneOfTheInks();
        nickSeenFromItsDayOn();
        nickOutsideTheDaysOfUse();
        dieToldOfNothingWithoutOne();
        noDayAtAll();
        due.end();
    }

    private static CoverMarks withDie(int officeFrom, int officeTill, int inks, int from, int till, int nick) {
        CoverMarks x = new CoverMarks();
        x.office(0, officeFrom, officeTill);
        x.die(0, inks, from, till, nick);
        return x;
    }

    private static CoverMarks withPlainDie() {
        return withDie(0, 999, 15, 0, 999, NONE);
    }

    private static void spanIs(String told, CoverMarks x, int mark, int many, int first, int last) {
        due.is(told + ": how many", x.span(mark, 0), many);
        due.is(told + ": the first", x.span(mark, 1), first);
        due.is(told + ": the last", x.span(mark, 2), last);
    }

    /** Promise 1: "Nothing is there." */
    private static void nothingIsThereAtFirst() {
        for (int what = 0; what <= 6; what++) {
            due.is("count(" + what + ") of a new one", new CoverMarks().count(what), 0);
        }
        due.is("trace() of a new one", new CoverMarks().trace(), 0);
        due.is("clear() of a new one", new CoverMarks().clear(), 0);
        due.is("rates() of a new one", new CoverMarks().rates(), 0);
        for (int cover = 0; cover < 8; cover++) {
            CoverMarks x = new CoverMarks();
            for (int day = 0; day <= 999; day += 999) {
                due.is("marks of a new one", x.marks(cover, day), 0);
                due.is("goes of a new one", x.goes(cover, day, 0), 1);
                due.is("when of a new one", x.when(cover, day, 0, 0), BAD);
                due.is("bars of a new one", x.bars(cover, day), NONE);
                due.is("fewest of a new one", x.fewest(cover, day, 0), 0);
                due.is("the set of a new one", x.fewest(cover, day, 1), 0);
                due.is("rivals of a new one", x.fewest(cover, day, 2), 1);
                due.is("heap of a new one", x.heap(cover, day), 1 << cover);
                due.is("look of a new one", x.look(cover, day), NONE);
                due.is("mail of a new one", x.mail(cover, (cover + 1) % 8, day), 0);
            }
        }
        CoverMarks y = new CoverMarks();
        for (int from = 0; from < 3; from++) {
            for (int to = 0; to < 3; to++) {
                for (int what = 0; what < 4; what++) {
                    due.is("owed of a new one", y.owed(from, to, 0, 1, what), NONE);
                }
                due.is("weights of a new one", y.weights(from, to, 0, 0, 0), 0);
                due.is("weights of a new one", y.weights(from, to, 0, 0, 1), NONE);
                due.is("weights of a new one", y.weights(from, to, 0, 0, 2), NONE);
            }
        }
        // one object holds nothing of another
        CoverMarks old = States.full();
        due.is("an older one", old.count(2), 40);
        due.is("a newer one", new CoverMarks().count(2), 0);
        due.is("the older one still", old.count(2), 40);
    }

    /** "TOWNS 0 .. 5 have a LAND 0 .. 2 (0 at first)." */
    private static void landsAreZeroAtFirst() {
        CoverMarks x = new CoverMarks();
        for (int t = 0; t < 6; t++) {
            due.is("town " + t + " at first", x.town(t, (t + 1) % 3), 0);
        }
        for (int t = 0; t < 6; t++) {
            due.is("town " + t + " then", x.town(t, 2), (t + 1) % 3);
            due.is("town " + t + ", the same again", x.town(t, 2), 2);
        }
        due.is("a land too far", x.town(3, 3), BAD);
        due.is("a land below 0", x.town(3, -1), BAD);
        due.is("what it was stays", x.town(3, 0), 2);
        due.is("and becomes 0 again", x.town(3, 1), 0);
    }

    /** "OFFICES (8 at most)" */
    private static void eightOffices() {
        CoverMarks x = new CoverMarks();
        for (int i = 0; i < 8; i++) {
            due.is("offices ahead of " + i, x.count(0), i);
            due.is("office " + i, x.office(5, i, i), i);
        }
        due.is("a ninth", x.office(5, 0, 0), FULL);
        due.is("a ninth again", x.office(0, 0, 999), FULL);
        due.is("a ninth that is bad", x.office(6, 0, 0), BAD);
        due.is("eight there are", x.count(0), 8);
    }

    /** "from a DAY to a DAY": the same day at both ends is a stretch, a day backwards is none. */
    private static void fromADayToADay() {
        int[] days = {0, 1, 500, 998, 999};
        for (int day : days) {
            CoverMarks x = new CoverMarks();
            due.is("office on " + day + " alone", x.office(0, day, day), 0);
            due.is("office back from " + day, x.office(0, day, day - 1), BAD);
            due.is("die on " + day + " alone", x.die(0, 1, day, day, NONE), 0);
            due.is("die back from " + day, x.die(0, 1, day, day - 1, NONE), BAD);
            x.mark(0, 0, 0, 0, NONE, Due.date("???"), NONE, 0);
            spanIs("a mark of " + day + " alone", x, 0, 1, day, day);
        }
    }

    /** "DIES (12 at most) are of an OFFICE" */
    private static void twelveDies() {
        CoverMarks x = new CoverMarks();
        due.is("no office yet", x.die(0, 1, 0, 999, NONE), BAD);
        x.office(0, 0, 999);
        for (int i = 0; i < 12; i++) {
            due.is("dies ahead of " + i, x.count(1), i);
            due.is("die " + i, x.die(0, 1, i, i, i), i);
        }
        due.is("a thirteenth", x.die(0, 1, 0, 0, 0), FULL);
        due.is("a thirteenth of no office", x.die(1, 1, 0, 0, 0), BAD);
        due.is("twelve there are", x.count(1), 12);
        due.is("an office still", x.office(0, 0, 999), 1);
        due.is("and still no die", x.die(1, 1, 0, 0, 0), FULL);
    }

    /** "of INKS (bits 0 .. 3)" */
    private static void inksOfADie() {
        for (int inks = -1; inks <= 16; inks++) {
            CoverMarks x = new CoverMarks();
            x.office(0, 0, 999);
            boolean good = inks >= 0 && inks <= 15;
            due.is("die of inks " + inks, x.die(0, inks, 0, 999, NONE), good ? 0 : BAD);
            for (int ink = 0; ink < 4 && good; ink++) {
                x.mark(0, 0, 0, ink, NONE, Due.date("???"), NONE, 0);
                boolean has = (inks & 1 << ink) != 0;
                due.is("ink " + ink + " of inks " + inks, x.span(ink, 0), has ? 1000 : 0);
            }
        }
    }

    /** "MARKS (40 at most)" */
    private static void fortyMarks() {
        CoverMarks x = withPlainDie();
        for (int i = 0; i < 40; i++) {
            due.is("marks ahead of " + i, x.count(2), i);
            due.is("mark " + i, x.mark(i % 8, i % 6, i % 2 == 0 ? 0 : NONE, i % 4, NONE, Due.date("???"), i, i), i);
        }
        due.is("a forty-first", x.mark(0, 0, 0, 0, 0, Due.date("???"), 0, 0), FULL);
        due.is("a forty-first without a die", x.mark(7, 5, NONE, 3, NONE, Due.date("999"), NONE, 999), FULL);
        due.is("a forty-first that is bad", x.mark(0, 0, 1, 0, 0, Due.date("???"), 0, 0), BAD);
        due.is("forty there are", x.count(2), 40);
        due.is("the last of them", x.about(39, 3), 39);
        due.is("none behind it", x.about(40, 3), BAD);
        for (int cover = 0; cover < 8; cover++) {
            due.is("five on each cover", x.marks(cover, 999), 5);
        }
    }

    private static void fortyMarksOfOneCover() {
        CoverMarks x = withPlainDie();
        for (int i = 0; i < 40; i++) {
            x.mark(7, 0, NONE, 0, NONE, Due.date("???"), NONE, 999);
        }
        due.is("forty on one cover", x.marks(7, 999), 40);
        due.is("a day ahead of it", x.marks(7, 998), 0);
        due.is("the cover beside it", x.marks(6, 999), 0);
        due.is("it goes by none of them", x.goes(7, 999, 0), 1);
        due.is("the first torn byte of all", x.look(7, 999), 0);
    }

    /** "A COVER's MARKS as of a DAY: those LOOKED AT by then, in the order of their numbers." */
    private static void lookedAtByThen() {
        int[] looked = {0, 1, 500, 998, 999};
        for (int day : looked) {
            CoverMarks x = withPlainDie();
            x.mark(3, 0, 0, 0, NONE, Due.date("0??"), NONE, day);
            due.is("looked at on " + day + ", as of then", x.marks(3, day), 1);
            due.is("looked at on " + day + ", the day ahead", x.marks(3, day - 1), day == 0 ? BAD : 0);
            due.is("looked at on " + day + ", at the end", x.marks(3, 999), 1);
        }
        // a mark that is looked at sooner does not come ahead of one with a smaller number
        CoverMarks y = withPlainDie();
        y.mark(0, 0, 0, 0, NONE, Due.date("200"), NONE, 9);
        y.mark(0, 0, 0, 0, NONE, Due.date("100"), NONE, 1);
        due.is("by numbers it can't go", y.goes(0, 9, 0), 0);
        due.is("the second bars", y.bars(0, 9), 1);
        due.is("as of 8 the first is not there", y.goes(0, 8, 0), 1);
        due.is("as of 8 the other has place 0", y.when(0, 8, 0, 0), 100);
    }

    /** "MARK 10, and 5 with a DIE (1)." */
    private static void leanWithADie() {
        CoverMarks x = withPlainDie();
        x.mark(0, 5, NONE, 3, 1, Due.date("123"), 9, 0);
        x.mark(0, 5, 0, 3, 1, Due.date("123"), 9, 0);
        due.is("without a die", x.lean(0, 0), 10);
        due.is("with die 0", x.lean(0, 1), 15);
        due.is("trace", x.trace(), 2);
        CoverMarks y = States.full();
        long before = y.trace();
        due.is("with die 11", y.lean(0, 11), 15);
        due.is("trace", y.trace(), before + 1);
    }

    /** "DATED up, and 4 for each byte of its DATE that is no ? (10)." */
    private static void leanByBytesOfTheDate() {
        String[] dates = {"???", "0??", "?0?", "??0", "00?", "0?0", "?00", "000", "999"};
        int[] want = {10, 14, 14, 14, 18, 18, 18, 22, 22};
        for (int i = 0; i < dates.length; i++) {
            CoverMarks x = new CoverMarks();
            x.mark(0, 0, NONE, 0, NONE, Due.date(dates[i]), NONE, 0);
            due.is("dated " + dates[i], x.lean(1, 0), want[i]);
            due.is("trace", x.trace(), 11);
        }
    }

    /** "RATE up, and 7 with a SUM (100).": a sum of 0 is one. */
    private static void leanWithASum() {
        CoverMarks x = withPlainDie();
        int[] sums = {NONE, 0, 1, 999};
        for (int i = 0; i < sums.length; i++) {
            x.mark(0, 0, 0, 0, NONE, Due.date("???"), sums[i], 0);
            due.is("rate with sum " + sums[i], x.lean(2, i), sums[i] == NONE ? 15 : 22);
            due.is("trace", x.trace(), 101 * (i + 1));
        }
    }

    /** "THROUGH up, and a third of it, rounded down (1000)." */
    private static void leanByAThird() {
        CoverMarks x = withPlainDie();
        String[] dates = {"???", "1??", "12?", "123"};
        // up is 10, 14, 18, 22 without a die, 15, 19, 23, 27 with one
        int[][] want = {{13, 18, 24, 29}, {20, 25, 30, 36}};
        for (int i = 0; i < 4; i++) {
            x.mark(0, 0, NONE, 0, NONE, Due.date(dates[i]), NONE, 0);
            x.mark(0, 0, 0, 0, NONE, Due.date(dates[i]), NONE, 0);
            due.is("through " + dates[i], x.lean(3, 2 * i), want[0][i]);
            due.is("through " + dates[i] + " with a die", x.lean(3, 2 * i + 1), want[1][i]);
        }
        due.is("trace", x.trace(), 8 * 1011);
    }

    /** "STAMP up, and its INK (10000)." */
    private static void leanByInk() {
        CoverMarks x = withPlainDie();
        for (int ink = 0; ink < 4; ink++) {
            x.mark(0, 0, NONE, ink, NONE, Due.date("???"), NONE, 0);
            x.mark(0, 0, 0, ink, NONE, Due.date("???"), NONE, 0);
            due.is("stamp of ink " + ink, x.lean(4, 2 * ink), 10 + ink);
            due.is("stamp of ink " + ink + " with a die", x.lean(4, 2 * ink + 1), 15 + ink);
        }
        due.is("trace", x.trace(), 8 * 10001);
    }

    /** "DOUBTED half of up, rounded down (100000)." */
    private static void leanByHalf() {
        CoverMarks x = withPlainDie();
        x.mark(0, 0, NONE, 0, NONE, Due.date("123"), 9, 0);
        x.mark(0, 0, 0, 0, NONE, Due.date("123"), 9, 0);
        due.is("half of 10", x.lean(5, 0), 5);
        due.is("half of 15", x.lean(5, 1), 7);
        due.is("trace", x.trace(), 2 * 100001);
    }

    /** "come to THE TRACE as often as lean() asks that body": of a refused call nothing; of a mark's own kind nothing. */
    private static void traceByBodies() {
        CoverMarks x = withPlainDie();
        for (int kind = 0; kind < 6; kind++) {
            x.mark(0, kind, 0, 0, NONE, Due.date("???"), NONE, 0);
        }
        due.is("marks alone", x.trace(), 0);
        x.lean(6, 0);
        x.lean(-1, 0);
        x.lean(3, 6);
        x.lean(3, -1);
        due.is("refused ones", x.trace(), 0);
        long[] adds = {1, 11, 101, 1011, 10001, 100001};
        long trace = 0;
        for (int kind = 0; kind < 6; kind++) {
            for (int mark = 0; mark < 6; mark++) {
                x.lean(kind, mark);
                trace += adds[kind];
                due.is("lean(" + kind + ", " + mark + "): trace", x.trace(), trace);
            }
        }
        // as many as an object is used for
        CoverMarks y = new CoverMarks();
        y.mark(0, 0, NONE, 0, NONE, Due.date("???"), NONE, 0);
        for (int i = 0; i < 510; i++) {
            y.lean(5, 0);
        }
        due.is("510 of the highest", y.trace(), 510L * 100001);
    }

    /** Promise 7, each at the ends of what it may be. */
    private static void aboutAtItsEdges() {
        CoverMarks x = States.twelveDies();
        x.mark(0, 0, NONE, 0, NONE, Due.date("000"), NONE, 0);
        x.mark(7, 5, 11, 3, 1, Due.date("999"), 999, 999);
        x.mark(1, 1, 0, 1, 0, Due.date("???"), 0, 1);
        int[][] want = {{0, 0, NONE, NONE, 0}, {7, 5, 11, 999, 999}, {1, 1, 0, 0, 1}};
        for (int m = 0; m < 3; m++) {
            for (int what = 0; what < 5; what++) {
                due.is("about(" + m + ", " + what + ")", x.about(m, what), want[m][what]);
            }
        }
        due.is("about no mark in no way", x.about(3, 5), BAD);
    }

    /** "a DAY's hundreds, tens, ones; torn ones fit any" */
    private static void tornBytesFitAny() {
        String[] dates = {"???", "0??", "9??", "?0?", "?9?", "??0", "??9", "00?", "0?0", "?00", "99?", "9?9", "?99"};
        int[][] want = {{1000, 0, 999}, {100, 0, 99}, {100, 900, 999}, {100, 0, 909}, {100, 90, 999}, {100, 0, 990}, {100, 9, 999},
            {10, 0, 9}, {10, 0, 90}, {10, 0, 900}, {10, 990, 999}, {10, 909, 999}, {10, 99, 999}};
        for (int i = 0; i < dates.length; i++) {
            CoverMarks x = new CoverMarks();
            x.mark(0, 0, NONE, 0, NONE, Due.date(dates[i]), NONE, 0);
            spanIs(dates[i], x, 0, want[i][0], want[i][1], want[i][2]);
            due.is(dates[i] + ": its first day", x.can(0, want[i][1]), 1);
            due.is(dates[i] + ": its last day", x.can(0, want[i][2]), 1);
            due.is(dates[i] + ": ahead of them", x.can(0, want[i][1] - 1), want[i][1] == 0 ? BAD : 0);
            due.is(dates[i] + ": behind them", x.can(0, want[i][2] + 1), want[i][2] == 999 ? BAD : 0);
        }
    }

    private static void datesAtTheEnds() {
        int[] days = {0, 9, 10, 63, 64, 99, 100, 127, 128, 899, 900, 959, 960, 990, 999};
        for (int day : days) {
            CoverMarks x = new CoverMarks();
            x.mark(0, 0, NONE, 0, NONE, Due.date(String.format("%03d", day)), NONE, 0);
            spanIs("day " + day, x, 0, 1, day, day);
            due.is("day " + day + " itself", x.can(0, day), 1);
            due.is("the day ahead of " + day, x.can(0, day - 1), day == 0 ? BAD : 0);
            due.is("the day behind " + day, x.can(0, day + 1), day == 999 ? BAD : 0);
        }
    }

    /** "its OFFICE is there on that DAY" */
    private static void officeThereAtBothEnds() {
        int[][] stretches = {{0, 0}, {0, 999}, {999, 999}, {100, 200}, {63, 64}};
        for (int[] s : stretches) {
            CoverMarks x = withDie(s[0], s[1], 1, 0, 999, NONE);
            x.mark(0, 0, 0, 0, NONE, Due.date("???"), NONE, 0);
            spanIs("office " + s[0] + " to " + s[1], x, 0, s[1] - s[0] + 1, s[0], s[1]);
            due.is("ahead of the office", x.can(0, s[0] - 1), s[0] == 0 ? BAD : 0);
            due.is("behind the office", x.can(0, s[1] + 1), s[1] == 999 ? BAD : 0);
        }
    }

    /** "the DIE in use" */
    private static void dieInUseAtBothEnds() {
        int[][] stretches = {{0, 0}, {0, 999}, {999, 999}, {100, 200}, {63, 64}};
        for (int[] s : stretches) {
            CoverMarks x = withDie(0, 999, 1, s[0], s[1], NONE);
            x.mark(0, 0, 0, 0, NONE, Due.date("???"), NONE, 0);
            spanIs("die " + s[0] + " to " + s[1], x, 0, s[1] - s[0] + 1, s[0], s[1]);
            due.is("ahead of the die", x.can(0, s[0] - 1), s[0] == 0 ? BAD : 0);
            due.is("behind the die", x.can(0, s[1] + 1), s[1] == 999 ? BAD : 0);
        }
    }

    private static void officeAndDieTogether() {
        // a die may be in use on days on which its office is not there: both must hold
        int[][] uses = {{100, 150, 150, 200, 1, 150, 150}, {150, 200, 100, 150, 1, 150, 150}, {100, 149, 150, 200, 0, NONE, NONE},
            {150, 200, 100, 149, 0, NONE, NONE}, {100, 200, 120, 130, 11, 120, 130}, {120, 130, 100, 200, 11, 120, 130}};
        for (int[] u : uses) {
            CoverMarks x = withDie(u[0], u[1], 1, u[2], u[3], NONE);
            due.is("the die stands", x.count(1), 1);
            x.mark(0, 0, 0, 0, NONE, Due.date("???"), NONE, 0);
            spanIs("office " + u[0] + " to " + u[1] + ", die " + u[2] + " to " + u[3], x, 0, u[4], u[5], u[6]);
        }
    }

    /** "the INK one of the DIE's" */
    private static void oneOfTheInks() {
        CoverMarks x = withDie(0, 999, 0b1001, 0, 999, NONE);
        int[] want = {1000, 0, 0, 1000};
        for (int ink = 0; ink < 4; ink++) {
            x.mark(0, 0, 0, ink, NONE, Due.date("???"), NONE, 0);
            due.is("ink " + ink, x.span(ink, 0), want[ink]);
            due.is("ink " + ink + " on a day", x.can(ink, 500), want[ink] / 1000);
        }
    }

    /** "a NICK seen just from the DIE's DAY on, not seen just ahead of it", "(NONE: never)" */
    private static void nickSeenFromItsDayOn() {
        int[] from = {NONE, 0, 1, 500, 998, 999};
        int[][] seen = {{0, NONE, NONE}, {1000, 0, 999}, {999, 1, 999}, {500, 500, 999}, {2, 998, 999}, {1, 999, 999}};
        int[][] unseen = {{1000, 0, 999}, {0, NONE, NONE}, {1, 0, 0}, {500, 0, 499}, {998, 0, 997}, {999, 0, 998}};
        for (int i = 0; i < from.length; i++) {
            CoverMarks x = withDie(0, 999, 1, 0, 999, from[i]);
            x.mark(0, 0, 0, 0, 1, Due.date("???"), NONE, 0);
            x.mark(0, 0, 0, 0, 0, Due.date("???"), NONE, 0);
            x.mark(0, 0, 0, 0, NONE, Due.date("???"), NONE, 0);
            spanIs("nick from " + from[i] + ", seen", x, 0, seen[i][0], seen[i][1], seen[i][2]);
            spanIs("nick from " + from[i] + ", not seen", x, 1, unseen[i][0], unseen[i][1], unseen[i][2]);
            spanIs("nick from " + from[i] + ", not told", x, 2, 1000, 0, 999);
        }
    }

    private static void nickOutsideTheDaysOfUse() {
        // the nick's day need not be one on which the die is in use
        int[] nicks = {50, 99, 100, 200, 201, 999, NONE};
        int[] seen = {101, 101, 101, 1, 0, 0, 0};
        for (int i = 0; i < nicks.length; i++) {
            CoverMarks x = withDie(0, 999, 1, 100, 200, nicks[i]);
            x.mark(0, 0, 0, 0, 1, Due.date("???"), NONE, 0);
            x.mark(0, 0, 0, 0, 0, Due.date("???"), NONE, 0);
            due.is("nick from " + nicks[i] + ", seen", x.span(0, 0), seen[i]);
            due.is("nick from " + nicks[i] + ", not seen", x.span(1, 0), 101 - seen[i]);
        }
    }

    /** "and, with a DIE": without one its ink and nick keep no day away. */
    private static void dieToldOfNothingWithoutOne() {
        CoverMarks x = withDie(5, 5, 1, 5, 5, 5);
        for (int nick : new int[] {0, 1, NONE}) {
            int m = x.mark(0, 0, NONE, 3, nick, Due.date("???"), NONE, 0);
            spanIs("without a die, nick " + nick, x, m, 1000, 0, 999);
        }
    }

    /** Promise 8: "(2; NONE)" */
    private static void noDayAtAll() {
        CoverMarks x = withDie(100, 200, 1, 100, 200, NONE);
        String[] dates = {"099", "201", "0??", "3??", "?99", "100", "200"};
        int[] want = {0, 0, 0, 0, 1, 1, 1};
        for (int i = 0; i < dates.length; i++) {
            x.mark(0, 0, 0, 0, NONE, Due.date(dates[i]), NONE, 0);
            due.is(dates[i] + ": how many", x.span(i, 0), want[i]);
            due.is(dates[i] + ": the first is NONE", x.span(i, 1) == NONE ? 0 : 1, want[i]);
            due.is(dates[i] + ": the last is NONE", x.span(i, 2) == NONE ? 0 : 1, want[i]);
        }
    }
}
