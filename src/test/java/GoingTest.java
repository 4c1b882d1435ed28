/** Promises 15 to 18: whether a cover goes, from when to when, what bars, the fewest to let be. */
public final class GoingTest {
    private static final int NONE = CoverMarks.NONE, BAD = CoverMarks.BAD, STATE = CoverMarks.STATE;
    private static final Due due = new Due();

    public static void main(String[] args) {
        wrongNumbers();
        oneTown();
        waysBetween();
        toTheDay();
        marksWithoutDie();
        barsByDays();
        fewestAndRivals();
        elevenMarks();
        due.end();
    }

    /** A die of each town, in use on all days; die i is of town i. */
    private static CoverMarks withTowns() {
        CoverMarks x = new CoverMarks();
        for (int town = 0; town < 6; town++) {
            x.office(town, 0, 999);
            x.die(town, 1, 0, 999, NONE);
        }
        return x;
    }

    private static int put(CoverMarks x, int cover, int die, String date, int looked) {
        return x.mark(cover, 0, die, 0, NONE, Due.date(date), NONE, looked);
    }

    private static void wrongNumbers() {
        CoverMarks x = withTowns();
        put(x, 0, 0, "???", 0);
        int[][] bad = {{-1, 0}, {8, 0}, {0, -1}, {0, 1000}};
        for (int[] b : bad) {
            due.is("goes bad", x.goes(b[0], b[1], 0), BAD);
            due.is("when bad", x.when(b[0], b[1], 0, 0), BAD);
            due.is("bars bad", x.bars(b[0], b[1]), BAD);
            due.is("fewest bad", x.fewest(b[0], b[1], 0), BAD);
        }
        due.is("goes bits beyond", x.goes(0, 0, 2), BAD);
        due.is("goes bits below 0", x.goes(0, 0, -1), BAD);
        due.is("goes all bits", x.goes(0, 0, 1), 1);
        due.is("goes bits of an empty cover", x.goes(1, 0, 1), BAD);
        due.is("when no mark", x.when(0, 0, 1, 0), BAD);
        due.is("when mark -1", x.when(0, 0, -1, 0), BAD);
        due.is("when late 2", x.when(0, 0, 0, 2), BAD);
        due.is("when late -1", x.when(0, 0, 0, -1), BAD);
        due.is("when of an empty cover", x.when(1, 0, 0, 0), BAD);
        due.is("fewest what 3", x.fewest(0, 0, 3), BAD);
        due.is("fewest what -1", x.fewest(0, 0, -1), BAD);
        due.is("when 0", x.when(0, 0, 0, 0), 0);
        due.is("when 1", x.when(0, 0, 0, 1), 999);
    }

    private static void oneTown() {
        CoverMarks x = withTowns();
        put(x, 0, 2, "05?", 0);
        put(x, 0, 2, "0?5", 0);
        put(x, 0, 2, "055", 0);
        int[][] want = {{50, 55}, {55, 55}, {55, 55}};
        for (int i = 0; i < 3; i++) {
            due.is("soon " + i, x.when(0, 0, i, 0), want[i][0]);
            due.is("late " + i, x.when(0, 0, i, 1), want[i][1]);
        }
        due.is("bars none", x.bars(0, 0), NONE);
        put(x, 0, 2, "054", 3);
        due.is("goes as of 2", x.goes(0, 2, 0), 1);
        due.is("goes as of 3", x.goes(0, 3, 0), 0);
        due.is("bars as of 3", x.bars(0, 3), 3);
        due.is("when as of 3", x.when(0, 3, 0, 0), NONE);
        due.is("when as of 3", x.when(0, 3, 3, 1), NONE);
        due.is("when as of 2, not seen yet", x.when(0, 2, 3, 1), BAD);
        due.is("goes without the last", x.goes(0, 3, 8), 1);
        due.is("goes without the first", x.goes(0, 3, 1), 0);
        due.is("goes without the two", x.goes(0, 3, 6), 1);
    }

    private static void waysBetween() {
        CoverMarks x = withTowns();
        put(x, 4, 0, "1??", 0);
        put(x, 4, 1, "1?0", 0);
        put(x, 4, 3, "1??", 0);
        due.is("no way", x.bars(4, 0), 1);
        x.sail(0, 1, 125, 131);
        x.sail(0, 1, 160, 165);
        x.road(1, 3, 30);
        x.sail(1, 3, 171, 172);
        int[][] want = {{100, 160}, {140, 170}, {170, 199}};
        for (int i = 0; i < 3; i++) {
            due.is("soon " + i, x.when(4, 0, i, 0), want[i][0]);
            due.is("late " + i, x.when(4, 0, i, 1), want[i][1]);
        }
        x.late(1, 171);
        int[][] then = {{100, 125}, {140, 170}, {170, 199}};
        for (int i = 0; i < 3; i++) {
            due.is("soon then " + i, x.when(4, 0, i, 0), then[i][0]);
            due.is("late then " + i, x.when(4, 0, i, 1), then[i][1]);
        }
        x.late(0, NONE);
        due.is("by the second alone: the third is too late", x.bars(4, 0), 2);
        due.is("goes without the third", x.goes(4, 0, 4), 1);
        due.is("does not go", x.when(4, 0, 1, 1), NONE);
    }

    private static void toTheDay() {
        for (int to = 0; to < 6; to++) {
            for (int from = 0; from < 6; from++) {
                CoverMarks x = withTowns();
                put(x, 0, from, "???", 0);
                put(x, 0, to, "300", 0);
                if (from != to) {
                    x.sail(from, to, 250, 300);
                    x.sail(from, to, 260, 301);
                }
                due.is("late by a sailing " + from + " " + to, x.when(0, 0, 0, 1), from == to ? 300 : 250);
                if (from != to) {
                    x.road(from, to, 10);
                    due.is("late by a road " + from + " " + to, x.when(0, 0, 0, 1), 290);
                    x.sail(to, from, 280, 290);
                    x.sail(from, to, 291, 299);
                    due.is("late by a later sailing " + from + " " + to, x.when(0, 0, 0, 1), 291);
                }
            }
        }
        CoverMarks y = withTowns();
        put(y, 0, 0, "???", 0);
        put(y, 0, 5, "100", 0);
        for (int town = 0; town < 5; town++) {
            y.sail(town, town + 1, 50 + 5 * town, 55 + 5 * town);
        }
        due.is("five sailings, each to the day", y.when(0, 0, 0, 1), 50);
        y.late(3, 71);
        due.is("one too late", y.when(0, 0, 0, 1), NONE);
        y.road(3, 4, 6);
        due.is("and too far by road", y.bars(0, 0), 1);
        y.road(3, 4, 5);
        due.is("by sea and road", y.when(0, 0, 0, 1), 50);
        due.is("by sea and road", y.when(0, 0, 0, 0), 0);
        CoverMarks z = withTowns();
        put(z, 0, 0, "00?", 0);
        put(z, 0, 1, "005", 0);
        z.road(0, 1, 6);
        due.is("no day below 0", z.goes(0, 0, 0), 0);
        z.road(0, 1, 5);
        due.is("day 0", z.when(0, 0, 0, 1), 0);
    }

    private static void marksWithoutDie() {
        CoverMarks x = withTowns();
        x.mark(0, 0, NONE, 0, NONE, Due.date("999"), NONE, 0);
        put(x, 0, 0, "5?0", 0);
        x.mark(0, 0, NONE, 0, NONE, Due.date("000"), NONE, 0);
        put(x, 1, 5, "000", 0);
        put(x, 0, 0, "50?", 0);
        due.is("they do not bar", x.goes(0, 0, 0), 1);
        due.is("they have no place", x.when(0, 0, 2, 0), BAD);
        due.is("places of those with a die", x.when(0, 0, 0, 1), 500);
        due.is("places of those with a die", x.when(0, 0, 1, 1), 509);
        due.is("bits of those with a die", x.goes(0, 0, 3), 1);
        due.is("bits of those with a die", x.goes(0, 0, 4), BAD);
    }

    private static void barsByDays() {
        CoverMarks x = withTowns();
        x.mark(0, 0, 0, 1, NONE, Due.date("???"), NONE, 0);
        put(x, 0, 1, "???", 0);
        due.is("an ink that it has not", x.bars(0, 0), 0);
        due.is("fewest", x.fewest(0, 0, 0), 1);
        due.is("the set", x.fewest(0, 0, 1), 1);
        due.is("rivals", x.fewest(0, 0, 2), 1);
    }

    private static void fewestAndRivals() {
        CoverMarks x = withTowns();
        String[] dates = {"500", "400", "300", "310", "200"};
        int[] want = {0, 1, 2, 2, 3};
        int[] sets = {0, 1, 3, 3, 19};
        int[] rivals = {1, 2, 3, 1, 1};
        for (int i = 0; i < dates.length; i++) {
            put(x, 0, 0, dates[i], i);
            due.is("fewest " + i, x.fewest(0, i, 0), want[i]);
            due.is("the set " + i, x.fewest(0, i, 1), sets[i]);
            due.is("rivals " + i, x.fewest(0, i, 2), rivals[i]);
        }
        // each in a town of its own and no way at all: any one may stay
        CoverMarks y = withTowns();
        for (int i = 0; i < 6; i++) {
            put(y, 3, i, "???", 0);
        }
        due.is("fewest of six", y.fewest(3, 0, 0), 5);
        due.is("the least set of six", y.fewest(3, 0, 1), 31);
        due.is("rivals of six", y.fewest(3, 0, 2), 6);
    }

    private static void elevenMarks() {
        CoverMarks x = withTowns();
        for (int i = 0; i < 10; i++) {
            put(x, 0, 0, i + "00", 5);
            x.mark(0, 0, NONE, 0, NONE, Due.date("000"), NONE, 5);
        }
        due.is("ten go", x.goes(0, 5, 0), 1);
        due.is("ten, all let be", x.goes(0, 5, 1023), 1);
        due.is("ten, bits beyond", x.goes(0, 5, 1024), BAD);
        due.is("ten, fewest", x.fewest(0, 5, 0), 0);
        put(x, 0, 0, "000", 6);
        due.is("eleven, as of 5", x.goes(0, 5, 0), 1);
        due.is("eleven, goes", x.goes(0, 6, 0), STATE);
        due.is("eleven, bits beyond", x.goes(0, 6, 4096), STATE);
        due.is("eleven, when", x.when(0, 6, 0, 0), STATE);
        due.is("eleven, no such mark", x.when(0, 6, 11, 0), STATE);
        due.is("eleven, when bad", x.when(0, 6, 0, 2), BAD);
        due.is("eleven, bars", x.bars(0, 6), STATE);
        due.is("eleven, fewest", x.fewest(0, 6, 0), STATE);
        due.is("eleven, fewest bad", x.fewest(0, 6, 3), BAD);
        due.is("eleven, marks", x.marks(0, 6), 21);
        due.is("eleven, heap", x.heap(0, 6), 1);
    }
}
