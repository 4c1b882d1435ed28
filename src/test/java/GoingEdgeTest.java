/** Part 2 of the document, going: what its sentences say at their edges (promises 15 to 18). */
public final class GoingEdgeTest {
    private static final int NONE = CoverMarks.NONE, BAD = CoverMarks.BAD, STATE = CoverMarks.STATE;
    private static final Due due = new Due();

    public static void main(String[] args) {
        withoutMarks();
        marksWithADieAlone();
        onADayThatItCanBeOf();
        noSoonerThanTheOneAhead();
        inTheTownOfItsOffice();
        byRoadToTheDay();
        bySailingToTheDay();
        theOneAheadThatIsNotLetBe();
        setsOfEachSize();
        soonAndLateAtTheEnds();
        soonAndLateOfTen();
        lateOnDayZero();
        lateThroughAllTowns();
        lateByTheLastOfTwenty();
        lateIsNotOfTheFirstAlone();
        aDayOfItsOwnBetween();
        noneIfItDoesNotGo();
        barsAtEachPlace();
        barsTheFirstOfSeveral();
        goingAsOfADay();
        moreThanTen();
        moreThanTenOfAnother();
        moreThanTenAsOfADay();
        fewestIsNone();
        fewestIsAll();
        theLeastSet();
        rivalsOfPairs();
        rivalsOfTen();
        due.end();
    }

    /** A die of each town, in use on all days; die i is of town i. */
    private static CoverMarks withTowns() {
        CoverMarks x = new CoverMarks();
        for (int town = 0; town < 6; town++) {
            x.office(town, 0, 999);
            x.die(town, 1, 0, 999, NONE);
        }
        return x;
    }

    private static int put(CoverMarks x, int die, String date) {
        return x.mark(0, 0, die, 0, NONE, Due.date(date), NONE, 0);
    }

    private static void fewestIs(String told, CoverMarks x, int many, int set, int rivals) {
        due.is(told + ": fewest", x.fewest(0, 999, 0), many);
        due.is(told + ": the set", x.fewest(0, 999, 1), set);
        due.is(told + ": rivals", x.fewest(0, 999, 2), rivals);
        due.is(told + ": goes without the set", x.goes(0, 999, set), 1);
    }

    private static void whenIs(String told, CoverMarks x, int i, int soon, int late) {
        due.is(told + ": soon of " + i, x.when(0, 999, i, 0), soon);
        due.is(told + ": late of " + i, x.when(0, 999, i, 1), late);
    }

    private static void withoutMarks() {
        CoverMarks x = withTowns();
        due.is("goes", x.goes(0, 0, 0), 1);
        due.is("a bit of no mark", x.goes(0, 0, 1), BAD);
        due.is("no mark at place 0", x.when(0, 0, 0, 0), BAD);
        due.is("bars", x.bars(0, 0), NONE);
        fewestIs("without marks", x, 0, 0, 1);
    }

    /** "by its MARKS with a DIE" */
    private static void marksWithADieAlone() {
        CoverMarks x = withTowns();
        put(x, NONE, "500");
        put(x, NONE, "400");
        due.is("goes by none", x.goes(0, 0, 0), 1);
        due.is("a bit of none", x.goes(0, 0, 1), BAD);
        due.is("none at place 0", x.when(0, 0, 0, 0), BAD);
        fewestIs("without a die", x, 0, 0, 1);
        put(x, 0, "300");
        put(x, NONE, "200");
        put(x, 0, "100");
        due.is("the last bars, at place 1", x.bars(0, 0), 1);
        due.is("two bits", x.goes(0, 0, 3), 1);
        due.is("a third bit", x.goes(0, 0, 4), BAD);
        fewestIs("two with a die", x, 1, 1, 2);
    }

    /** "each on a DAY that it CAN BE of" */
    private static void onADayThatItCanBeOf() {
        CoverMarks x = new CoverMarks();
        x.office(0, 100, 200);
        x.die(0, 1, 150, 300, NONE);
        put(x, 0, "???");
        whenIs("one mark", x, 0, 150, 200);
        x.mark(1, 0, 0, 1, NONE, Due.date("???"), NONE, 0);
        due.is("an ink of no day", x.goes(1, 0, 0), 0);
        due.is("that one let be", x.goes(1, 0, 1), 1);
        put(x, 0, "149");
        due.is("a date of no day", x.bars(0, 0), 1);
    }

    /** "each no sooner than": in one town the same day will do, a day sooner will not. */
    private static void noSoonerThanTheOneAhead() {
        String[][] dates = {{"000", "000"}, {"500", "500"}, {"999", "999"}, {"500", "501"}, {"500", "499"}, {"001", "000"}, {"999", "998"}};
        int[] want = {1, 1, 1, 1, 0, 0, 0};
        for (int i = 0; i < dates.length; i++) {
            CoverMarks x = withTowns();
            put(x, 3, dates[i][0]);
            put(x, 3, dates[i][1]);
            due.is(dates[i][0] + " then " + dates[i][1], x.goes(0, 0, 0), want[i]);
            due.is(dates[i][0] + " then " + dates[i][1] + ": bars", x.bars(0, 0), want[i] == 1 ? NONE : 1);
        }
    }

    /** "in the TOWN of its DIE's OFFICE": two dies, two offices of one town are no way apart. */
    private static void inTheTownOfItsOffice() {
        CoverMarks x = new CoverMarks();
        x.office(2, 0, 999);
        x.office(2, 0, 999);
        x.office(3, 0, 999);
        x.die(0, 1, 0, 999, NONE);
        x.die(0, 1, 0, 999, NONE);
        x.die(1, 1, 0, 999, NONE);
        x.die(2, 1, 0, 999, NONE);
        put(x, 0, "500");
        put(x, 1, "500");
        put(x, 2, "500");
        due.is("one town, one day", x.goes(0, 0, 0), 1);
        put(x, 3, "999");
        due.is("another town, no way", x.bars(0, 0), 3);
        x.town(2, 1);
        x.town(3, 1);
        due.is("one land is no way", x.bars(0, 0), 3);
        x.road(2, 3, 30);
        due.is("a road is one", x.goes(0, 0, 0), 1);
    }

    private static void byRoadToTheDay() {
        for (int days = 1; days <= 30; days += 29) {
            CoverMarks x = withTowns();
            put(x, 0, "100");
            put(x, 1, String.format("%03d", 100 + days));
            x.road(1, 0, days);
            due.is("a road of " + days + " days", x.goes(0, 0, 0), 1);
            x.road(1, 0, Math.min(30, days + 1));
            due.is("a road of a day more", x.goes(0, 0, 0), days == 30 ? 1 : 0);
            CoverMarks y = withTowns();
            put(y, 0, "100");
            put(y, 1, String.format("%03d", 99 + days));
            y.road(0, 1, days);
            due.is("a day too soon for a road of " + days, y.goes(0, 0, 0), 0);
            due.is("and it bars", y.bars(0, 0), 1);
        }
        CoverMarks z = withTowns();
        put(z, 0, "999");
        put(z, 1, "???");
        z.road(0, 1, 1);
        due.is("no day behind 999", z.goes(0, 0, 0), 0);
        z.sail(0, 1, 999, 999);
        due.is("a sailing on day 999", z.goes(0, 0, 0), 1);
        whenIs("on day 999", z, 1, 999, 999);
    }

    private static void bySailingToTheDay() {
        String[][] dates = {{"050", "060"}, {"049", "060"}, {"051", "060"}, {"050", "059"}, {"050", "061"}, {"000", "999"}};
        int[] want = {1, 1, 0, 0, 1, 1};
        for (int i = 0; i < dates.length; i++) {
            CoverMarks x = withTowns();
            x.sail(4, 5, 50, 60);
            put(x, 4, dates[i][0]);
            put(x, 5, dates[i][1]);
            due.is("sailing 50 to 60, marks " + dates[i][0] + ", " + dates[i][1], x.goes(0, 0, 0), want[i]);
            x.late(0, NONE);
            due.is("it is lost", x.goes(0, 0, 0), 0);
            x.late(0, 61);
            due.is("it is a day late", x.goes(0, 0, 0), want[i] == 1 && dates[i][1].compareTo("061") >= 0 ? 1 : 0);
        }
    }

    /** "that are not let be": a mark that is let be is no place on the way. */
    private static void theOneAheadThatIsNotLetBe() {
        CoverMarks x = withTowns();
        put(x, 0, "100");
        put(x, 1, "500");
        put(x, 2, "200");
        x.road(0, 1, 5);
        x.road(0, 2, 5);
        due.is("all", x.goes(0, 0, 0), 0);
        due.is("the third bars", x.bars(0, 0), 2);
        due.is("without the second", x.goes(0, 0, 2), 1);
        due.is("without the third", x.goes(0, 0, 4), 1);
        due.is("without the first", x.goes(0, 0, 1), 0);
        fewestIs("either", x, 1, 2, 2);
    }

    /** "then BAD: bits beyond its MARKS" */
    private static void setsOfEachSize() {
        CoverMarks x = withTowns();
        for (int n = 0; n <= 10; n++) {
            due.is(n + " marks, none let be", x.goes(0, 0, 0), 1);
            due.is(n + " marks, all let be", x.goes(0, 0, (1 << n) - 1), 1);
            due.is(n + " marks, a bit beyond", x.goes(0, 0, 1 << n), BAD);
            due.is(n + " marks, all and a bit beyond", x.goes(0, 0, (2 << n) - 1), BAD);
            due.is(n + " marks, bit 31", x.goes(0, 0, Integer.MIN_VALUE), BAD);
            due.is(n + " marks, all bits", x.goes(0, 0, -1), BAD);
            due.is(n + " marks, the last place", x.when(0, 0, n - 1, 0), n == 0 ? BAD : 0);
            due.is(n + " marks, the last place", x.when(0, 0, n - 1, 1), n == 0 ? BAD : 999);
            due.is(n + " marks, a place beyond", x.when(0, 0, n, 0), BAD);
            if (n < 10) {
                put(x, 0, "???");
            }
        }
    }

    /** "SOON, LATE of a MARK: the first, the last DAY that it has in any such way." */
    private static void soonAndLateAtTheEnds() {
        CoverMarks x = withTowns();
        put(x, 0, "???");
        whenIs("all days", x, 0, 0, 999);
        put(x, 1, "???");
        x.road(0, 1, 30);
        whenIs("a road of 30", x, 0, 0, 969);
        whenIs("a road of 30", x, 1, 30, 999);
        x.sail(0, 1, 0, 0);
        x.sail(0, 1, 999, 999);
        whenIs("sailings on the first and the last day", x, 0, 0, 999);
        whenIs("sailings on the first and the last day", x, 1, 0, 999);
        CoverMarks y = withTowns();
        put(y, 0, "000");
        put(y, 0, "999");
        whenIs("day 0", y, 0, 0, 0);
        whenIs("day 999", y, 1, 999, 999);
    }

    private static void soonAndLateOfTen() {
        CoverMarks x = withTowns();
        x.road(0, 1, 30);
        for (int i = 0; i < 10; i++) {
            put(x, i % 2, "???");
        }
        for (int i = 0; i < 10; i++) {
            whenIs("ten, to and fro", x, i, 30 * i, 999 - 30 * (9 - i));
        }
    }

    private static void lateOnDayZero() {
        CoverMarks x = withTowns();
        put(x, 0, "00?");
        put(x, 1, "005");
        x.road(0, 1, 5);
        whenIs("a road from day 0 on", x, 0, 0, 0);
        x.road(0, 1, 4);
        whenIs("a road a day shorter", x, 0, 0, 1);
        x.road(0, 1, 6);
        whenIs("a road a day longer", x, 0, NONE, NONE);
        CoverMarks y = withTowns();
        put(y, 0, "???");
        put(y, 1, "???");
        y.sail(0, 1, 0, 0);
        whenIs("a sailing on day 0 alone", y, 0, 0, 0);
        whenIs("a sailing on day 0 alone", y, 1, 0, 999);
    }

    /** A way through all six towns by sailings, by roads, by both, told in either order. */
    private static void lateThroughAllTowns() {
        for (int ways = 0; ways < 32; ways++) {
            for (int order = 0; order < 2; order++) {
                CoverMarks x = withTowns();
                CoverMarks y = withTowns();
                for (int k = 0; k < 5; k++) {
                    int i = order == 0 ? k : 4 - k;
                    boolean road = (ways >> i & 1) == 1;
                    oneStep(x, road, i, i + 1, 100 + 10 * i);
                    oneStep(y, road, 5 - i, 4 - i, 100 + 10 * i);
                }
                // all roads: one may set out on any day; else on the day that makes the first sailing
                int late = ways == 31 ? 999 - 50 : 100;
                put(x, 0, "???");
                put(x, 5, "???");
                whenIs("towns 0 to 5, ways " + ways, x, 0, 0, late);
                put(y, 5, "???");
                put(y, 0, "???");
                whenIs("towns 5 to 0, ways " + ways, y, 0, 0, late);
            }
        }
    }

    private static void oneStep(CoverMarks x, boolean road, int from, int to, int day) {
        if (road) {
            x.road(from, to, 10);
        } else {
            x.sail(from, to, day, day + 10);
        }
    }

    private static void lateByTheLastOfTwenty() {
        CoverMarks x = withTowns();
        put(x, 0, "???");
        put(x, 1, "???");
        for (int s = 0; s < 20; s++) {
            x.sail(0, 1, 40 * s, 40 * s + 9);
            whenIs("by sailing " + s, x, 0, 0, 40 * s);
            whenIs("by sailing 0", x, 1, 9, 999);
        }
    }

    private static void lateIsNotOfTheFirstAlone() {
        // the last mark of three narrows those ahead of it, the first those behind it
        CoverMarks x = withTowns();
        put(x, 0, "?5?");
        put(x, 0, "???");
        put(x, 0, "3??");
        whenIs("three", x, 0, 50, 359);
        whenIs("three", x, 1, 50, 399);
        whenIs("three", x, 2, 300, 399);
        put(x, 0, "301");
        whenIs("four", x, 0, 50, 259);
        whenIs("four", x, 1, 50, 301);
        whenIs("four", x, 2, 300, 301);
        whenIs("four", x, 3, 301, 301);
    }

    private static void aDayOfItsOwnBetween() {
        // the middle mark is struck in a town from which one ship goes on
        CoverMarks x = withTowns();
        put(x, 0, "1??");
        put(x, 1, "1?5");
        put(x, 2, "1??");
        x.sail(0, 1, 110, 116);
        x.sail(0, 1, 130, 136);
        x.sail(1, 2, 144, 150);
        x.sail(1, 2, 146, 155);
        whenIs("ships", x, 0, 100, 130);
        whenIs("ships", x, 1, 125, 145);
        whenIs("ships", x, 2, 150, 199);
        x.late(3, NONE);
        whenIs("the last ship lost", x, 1, 125, 135);
        whenIs("the last ship lost", x, 0, 100, 110);
        x.late(0, NONE);
        due.is("the first lost, too", x.goes(0, 0, 0), 0);
        due.is("which mark bars", x.bars(0, 0), 2);
        due.is("without the one between", x.goes(0, 0, 2), 1);
    }

    /** Promise 16: "NONE: it does not GO", "then BAD: no such MARK" */
    private static void noneIfItDoesNotGo() {
        CoverMarks x = withTowns();
        put(x, 0, "500");
        put(x, 0, "400");
        for (int i = 0; i < 2; i++) {
            whenIs("does not go", x, i, NONE, NONE);
        }
        due.is("no such mark, though it does not go", x.when(0, 0, 2, 0), BAD);
        due.is("no such mark, though it does not go", x.when(0, 0, -1, 1), BAD);
        due.is("neither soon nor late", x.when(0, 0, 0, 2), BAD);
    }

    /** "BARS: the first MARK by which it can't GO any more" */
    private static void barsAtEachPlace() {
        for (int place = 0; place < 10; place++) {
            CoverMarks x = withTowns();
            for (int i = 0; i < 10; i++) {
                x.mark(0, 0, 0, i == place ? 1 : 0, NONE, Due.date("???"), NONE, 0);
            }
            due.is("bars", x.bars(0, 0), place);
            due.is("goes", x.goes(0, 0, 0), 0);
            due.is("goes without it", x.goes(0, 0, 1 << place), 1);
            fewestIs("one of no day at place " + place, x, 1, 1 << place, 1);
        }
    }

    private static void barsTheFirstOfSeveral() {
        CoverMarks x = withTowns();
        String[] dates = {"100", "200", "150", "120", "300"};
        for (String date : dates) {
            put(x, 0, date);
        }
        due.is("the first of two", x.bars(0, 0), 2);
        due.is("without it the next bars: it does not go", x.goes(0, 0, 4), 0);
        due.is("without both", x.goes(0, 0, 12), 1);
        due.is("without the one that is too late", x.goes(0, 0, 2), 0);
    }

    /** "A COVER GOES (as of a DAY)": asked of an earlier day, marks looked at later neither bar nor have a place. */
    private static void goingAsOfADay() {
        CoverMarks x = withTowns();
        x.mark(0, 0, 0, 0, NONE, Due.date("5??"), NONE, 10);
        x.mark(0, 0, 0, 0, NONE, Due.date("6??"), NONE, 30);
        x.mark(0, 0, 0, 0, NONE, Due.date("550"), NONE, 20);
        // by day: whether it goes, bars, soon and late of place 0, fewest, the set, rivals, bits that there are
        int[][] want = {{9, 1, NONE, BAD, BAD, 0, 0, 1, 0}, {10, 1, NONE, 500, 599, 0, 0, 1, 1}, {19, 1, NONE, 500, 599, 0, 0, 1, 1},
            {20, 1, NONE, 500, 550, 0, 0, 1, 3}, {29, 1, NONE, 500, 550, 0, 0, 1, 3}, {30, 0, 2, NONE, NONE, 1, 2, 2, 7}, {999, 0, 2, NONE, NONE, 1, 2, 2, 7}};
        for (int[] w : want) {
            String told = "as of " + w[0] + ": ";
            due.is(told + "goes", x.goes(0, w[0], 0), w[1]);
            due.is(told + "bars", x.bars(0, w[0]), w[2]);
            due.is(told + "soon", x.when(0, w[0], 0, 0), w[3]);
            due.is(told + "late", x.when(0, w[0], 0, 1), w[4]);
            for (int what = 0; what < 3; what++) {
                due.is(told + "fewest " + what, x.fewest(0, w[0], what), w[5 + what]);
            }
            due.is(told + "all let be", x.goes(0, w[0], w[8]), 1);
            due.is(told + "a bit beyond", x.goes(0, w[0], w[8] + 1), BAD);
        }
        due.is("as of 20 place 1 is the last mark's", x.when(0, 20, 1, 0), 550);
        due.is("as of 20 there is no place 2", x.when(0, 20, 2, 0), BAD);
    }

    /** "where a COVER has more than 10 of them what is asked of its GOING is STATE" */
    private static void moreThanTen() {
        CoverMarks x = withTowns();
        for (int i = 0; i < 10; i++) {
            put(x, 0, "???");
        }
        due.is("ten: goes", x.goes(0, 0, 0), 1);
        due.is("ten: goes without the tenth", x.goes(0, 0, 512), 1);
        due.is("ten: goes without all", x.goes(0, 0, 1023), 1);
        due.is("ten: a bit beyond", x.goes(0, 0, 1024), BAD);
        due.is("ten: the tenth", x.when(0, 0, 9, 1), 999);
        due.is("ten: none behind it", x.when(0, 0, 10, 1), BAD);
        due.is("ten: bars", x.bars(0, 0), NONE);
        fewestIs("ten", x, 0, 0, 1);
        put(x, NONE, "???");
        due.is("ten and one without a die", x.goes(0, 0, 0), 1);
        put(x, 0, "???");
        due.is("eleven: goes", x.goes(0, 0, 0), STATE);
        due.is("eleven: goes without one", x.goes(0, 0, 1), STATE);
        due.is("eleven: goes without the eleventh", x.goes(0, 0, 1024), STATE);
        due.is("eleven: a bit beyond", x.goes(0, 0, 2048), STATE);
        due.is("eleven: when", x.when(0, 0, 0, 0), STATE);
        due.is("eleven: when of no mark", x.when(0, 0, 99, 0), STATE);
        due.is("eleven: bars", x.bars(0, 0), STATE);
        for (int what = 0; what < 3; what++) {
            due.is("eleven: fewest", x.fewest(0, 0, what), STATE);
        }
        // of its going alone
        due.is("eleven: marks", x.marks(0, 0), 12);
        due.is("eleven: mail", x.mail(0, 1, 0), 0);
        due.is("eleven: heap", x.heap(0, 0), 1);
        due.is("eleven: many", x.many(0, 0), 1 + 1000 * 999 / 2);
        due.is("eleven: look", x.look(0, 0), 0);
        due.is("eleven: span", x.span(11, 0), 1000);
    }

    private static void moreThanTenOfAnother() {
        CoverMarks x = withTowns();
        for (int i = 0; i < 11; i++) {
            x.mark(3, 0, 0, 0, NONE, Due.date("???"), NONE, 0);
        }
        for (int cover = 0; cover < 8; cover++) {
            due.is("goes of cover " + cover, x.goes(cover, 0, 0), cover == 3 ? STATE : 1);
            due.is("bars of cover " + cover, x.bars(cover, 0), cover == 3 ? STATE : NONE);
        }
        for (int i = 11; i < 40; i++) {
            x.mark(3, 0, 0, 0, NONE, Due.date("???"), NONE, 0);
        }
        due.is("forty: goes", x.goes(3, 0, 0), STATE);
        due.is("forty: fewest", x.fewest(3, 0, 2), STATE);
        due.is("forty: when", x.when(3, 0, 39, 1), STATE);
    }

    private static void moreThanTenAsOfADay() {
        CoverMarks x = withTowns();
        for (int i = 0; i < 12; i++) {
            x.mark(0, 0, 0, 0, NONE, Due.date("???"), NONE, 100 * Math.min(i, 9) + (i > 9 ? i : 0));
        }
        // looked at on 0, 100 .. 900, 910, 911
        due.is("ten as of 909", x.goes(0, 909, 1023), 1);
        due.is("eleven as of 910", x.goes(0, 910, 1023), STATE);
        due.is("twelve as of 911", x.goes(0, 911, 0), STATE);
        due.is("one as of 99", x.goes(0, 99, 2), BAD);
        due.is("one as of 0", x.goes(0, 0, 1), 1);
        due.is("two as of 100", x.goes(0, 100, 3), 1);
    }

    /** "FEWEST to let be so that it GOES: how many, the least such set" */
    private static void fewestIsNone() {
        CoverMarks x = withTowns();
        for (int i = 0; i < 10; i++) {
            put(x, 0, i + "00");
            fewestIs("all of " + (i + 1) + " may stay", x, 0, 0, 1);
        }
    }

    private static void fewestIsAll() {
        CoverMarks x = withTowns();
        for (int n = 1; n <= 10; n++) {
            // an ink that no die has: no day at all
            x.mark(0, 0, 0, 3, NONE, Due.date("???"), NONE, 0);
            fewestIs("none of " + n + " may stay", x, n, (1 << n) - 1, 1);
            due.is("none of " + n + " may stay: bars", x.bars(0, 0), 0);
        }
    }

    private static void theLeastSet() {
        // of three in a row backwards any one may stay: the sets are 011, 101, 110
        CoverMarks x = withTowns();
        put(x, 0, "300");
        put(x, 0, "200");
        put(x, 0, "100");
        fewestIs("one of three stays", x, 2, 3, 3);
        // fewer to let be comes ahead of a smaller number
        CoverMarks y = withTowns();
        put(y, 0, "100");
        put(y, 0, "110");
        put(y, 0, "120");
        put(y, 0, "050");
        fewestIs("the last alone", y, 1, 8, 1);
        CoverMarks z = withTowns();
        put(z, 0, "900");
        put(z, 0, "110");
        put(z, 0, "120");
        put(z, 0, "130");
        fewestIs("the first alone", z, 1, 1, 1);
    }

    /** "RIVALS: how many sets of as many do" */
    private static void rivalsOfPairs() {
        CoverMarks x = withTowns();
        int rivals = 1;
        int set = 0;
        for (int pair = 0; pair < 5; pair++) {
            put(x, 0, pair + "50");
            put(x, 0, pair + "40");
            rivals *= 2;
            set |= 1 << 2 * pair;
            fewestIs((pair + 1) + " pairs", x, pair + 1, set, rivals);
        }
    }

    private static void rivalsOfTen() {
        CoverMarks x = withTowns();
        for (int n = 1; n <= 10; n++) {
            put(x, 0, (10 - n) + "00");
            fewestIs("one of " + n + " stays", x, n - 1, (1 << n - 1) - 1, n);
        }
    }
}
