/** Part 2 of the document (sailings, roads, soonest, going), sentence by sentence: what it says at its edges. */
public final class WayEdgeTest {
    private static final int NONE = CoverMarks.NONE, BAD = CoverMarks.BAD, FULL = CoverMarks.FULL;
    private static final Due due = new Due();

    public static void main(String[] args) {
        twentySailings();
        fromATownToAnother();
        comesThatDayOrLater();
        lostAndFound();
        lostKeepsItsPlace();
        roadsOfOneToThirtyDays();
        noRoadAtFirst();
        roadsAreBetween();
        waitAnywhere();
        sailingOnItsDay();
        sailingsOfOneDay();
        roadOnAnyDay();
        day999AtMost();
        toWhereOneIs();
        throughAllTowns();
        due.end();
    }

    /** "SAILINGS (20 at most)" */
    private static void twentySailings() {
        CoverMarks x = new CoverMarks();
        for (int i = 0; i < 20; i++) {
            due.is("sailings ahead of " + i, x.count(3), i);
            due.is("sailing " + i, x.sail(0, 1, i, i), i);
        }
        due.is("a twenty-first", x.sail(0, 1, 0, 0), FULL);
        due.is("a twenty-first that is bad", x.sail(0, 1, 1, 0), BAD);
        due.is("twenty there are", x.count(3), 20);
        // one that is lost leaves no room
        for (int i = 0; i < 20; i++) {
            due.is("lost ahead of " + i, x.count(6), i);
            due.is("late " + i, x.late(i, NONE), i);
        }
        due.is("all are lost", x.count(6), 20);
        due.is("and still are there", x.count(3), 20);
        due.is("a twenty-first still", x.sail(0, 1, 0, 0), FULL);
        due.is("no such sailing", x.late(20, NONE), BAD);
        due.is("the last of them", x.late(19, 999), NONE);
        due.is("soonest by the last of them", x.soonest(0, 19, 1), 999);
    }

    /** "from a TOWN to another one" */
    private static void fromATownToAnother() {
        for (int from = 0; from < 6; from++) {
            for (int to = 0; to < 6; to++) {
                CoverMarks x = new CoverMarks();
                due.is("sail from " + from + " to " + to, x.sail(from, to, 5, 8), from == to ? BAD : 0);
                due.is("sailings", x.count(3), from == to ? 0 : 1);
                due.is("road from " + from + " to " + to, x.road(from, to, 2), from == to ? BAD : NONE);
                due.is("soonest from " + from + " to " + to, x.soonest(from, 5, to), from == to ? 5 : 7);
            }
        }
    }

    /** "leave on a DAY, come on a DAY (that DAY or later)" */
    private static void comesThatDayOrLater() {
        int[] days = {0, 1, 500, 998, 999};
        for (int day : days) {
            CoverMarks x = new CoverMarks();
            due.is("comes a day sooner than " + day, x.sail(0, 1, day, day - 1), BAD);
            due.is("comes on " + day, x.sail(0, 1, day, day), 0);
            due.is("soonest", x.soonest(0, day, 1), day);
            due.is("a day too late for it", x.soonest(0, day + 1, 1), day == 999 ? BAD : NONE);
            due.is("late: a day sooner than it leaves", x.late(0, day - 1), BAD);
            due.is("late: on the day it leaves", x.late(0, day), day);
            due.is("late: on the last day", x.late(0, 999), day);
            due.is("late: behind the last day", x.late(0, 1000), BAD);
            due.is("soonest then", x.soonest(0, day, 1), 999);
            due.is("late: sooner again", x.late(0, day), 999);
        }
    }

    /** "(NONE: it is LOST): on which it came (NONE)" */
    private static void lostAndFound() {
        CoverMarks x = new CoverMarks();
        x.sail(0, 1, 10, 20);
        due.is("lost", x.late(0, NONE), 20);
        due.is("lost again", x.late(0, NONE), NONE);
        due.is("one lost", x.count(6), 1);
        due.is("found, sooner than it left", x.late(0, 9), BAD);
        due.is("refused: lost still", x.count(6), 1);
        due.is("no number beside NONE", x.late(0, NONE + 1), BAD);
        due.is("no number beside NONE", x.late(0, NONE - 1), BAD);
        due.is("by none", x.soonest(0, 0, 1), NONE);
        due.is("found", x.late(0, 10), NONE);
        due.is("none lost", x.count(6), 0);
        due.is("by it", x.soonest(0, 0, 1), 10);
        due.is("a sailing can't begin as lost", x.sail(0, 1, 10, NONE), BAD);
    }

    private static void lostKeepsItsPlace() {
        CoverMarks x = new CoverMarks();
        for (int i = 0; i < 3; i++) {
            x.sail(0, i + 1, 10, 20 + i);
        }
        x.late(1, NONE);
        due.is("the one ahead", x.soonest(0, 10, 1), 20);
        due.is("the lost one", x.soonest(0, 10, 2), NONE);
        due.is("the one behind", x.soonest(0, 10, 3), 22);
        due.is("the next has the next number", x.sail(0, 4, 10, 23), 3);
    }

    /** "ROADS between two TOWNS take DAYS 1 .. 30, or there is none (NONE)" */
    private static void roadsOfOneToThirtyDays() {
        CoverMarks x = new CoverMarks();
        int was = NONE;
        for (int days = 1; days <= 30; days++) {
            due.is("road of " + days, x.road(4, 5, days), was);
            due.is("soonest by it", x.soonest(4, 100, 5), 100 + days);
            was = days;
        }
        int[] bad = {0, -1, 31, NONE - 1, NONE + 1, 256 + 5};
        for (int days : bad) {
            due.is("road of " + days, x.road(4, 5, days), BAD);
        }
        due.is("none", x.road(4, 5, NONE), 30);
        due.is("none again", x.road(4, 5, NONE), NONE);
        due.is("soonest without", x.soonest(4, 100, 5), NONE);
        due.is("one again", x.road(4, 5, 1), NONE);
    }

    /** "(NONE; at first)" */
    private static void noRoadAtFirst() {
        CoverMarks x = new CoverMarks();
        for (int a = 0; a < 6; a++) {
            for (int b = 0; b < 6; b++) {
                due.is("at first from " + a + " to " + b, x.soonest(a, 0, b), a == b ? 0 : NONE);
                if (a != b) {
                    due.is("road at first", x.road(a, b, NONE), NONE);
                }
            }
        }
    }

    /** "between two TOWNS": the same road both ways. */
    private static void roadsAreBetween() {
        for (int a = 0; a < 6; a++) {
            for (int b = 0; b < a; b++) {
                CoverMarks x = new CoverMarks();
                due.is("road", x.road(a, b, 7), NONE);
                due.is("the other way", x.road(b, a, 9), 7);
                due.is("this way again", x.road(a, b, 9), 9);
                due.is("there", x.soonest(a, 1, b), 10);
                due.is("and back", x.soonest(b, 1, a), 10);
            }
        }
    }

    /** "One may wait anywhere" */
    private static void waitAnywhere() {
        CoverMarks x = new CoverMarks();
        x.sail(0, 1, 900, 901);
        x.sail(1, 2, 998, 999);
        due.is("waited from day 0 on", x.soonest(0, 0, 2), 999);
        due.is("waited in the first", x.soonest(0, 0, 1), 901);
        due.is("nobody waits where one goes", x.soonest(0, 900, 0), 900);
    }

    /** "by a SAILING that is not LOST on its DAY" */
    private static void sailingOnItsDay() {
        CoverMarks x = new CoverMarks();
        x.sail(0, 1, 50, 60);
        due.is("the day ahead", x.soonest(0, 49, 1), 60);
        due.is("on the day", x.soonest(0, 50, 1), 60);
        due.is("the day behind", x.soonest(0, 51, 1), NONE);
        due.is("not backwards", x.soonest(1, 0, 0), NONE);
        // on the day on which one comes one may leave again, but not the day ahead
        x.sail(1, 2, 60, 61);
        x.sail(1, 3, 59, 61);
        due.is("leaves as the first comes", x.soonest(0, 50, 2), 61);
        due.is("leaves a day ahead of that", x.soonest(0, 50, 3), NONE);
        due.is("from there itself", x.soonest(1, 59, 3), 61);
        due.is("the first a day late", x.late(0, 61), 60);
        due.is("then the second is missed", x.soonest(0, 50, 2), NONE);
        // the better of two is not the one that leaves first
        x.sail(0, 4, 10, 90);
        x.sail(0, 4, 80, 89);
        due.is("the one that comes first", x.soonest(0, 5, 4), 89);
        due.is("till it has left", x.soonest(0, 80, 4), 89);
        due.is("and neither then", x.soonest(0, 81, 4), NONE);
    }

    private static void sailingsOfOneDay() {
        CoverMarks x = new CoverMarks();
        x.sail(1, 2, 7, 7);
        x.sail(0, 1, 7, 7);
        x.sail(2, 0, 7, 7);
        due.is("two on one day", x.soonest(0, 7, 2), 7);
        due.is("all the way round", x.soonest(0, 7, 0), 7);
        due.is("from the second on", x.soonest(1, 7, 0), 7);
        due.is("the day behind", x.soonest(0, 8, 2), NONE);
    }

    /** "go by ROAD on any DAY" */
    private static void roadOnAnyDay() {
        CoverMarks x = new CoverMarks();
        x.road(0, 1, 1);
        x.road(1, 2, 30);
        int[] days = {0, 1, 500, 968};
        for (int day : days) {
            due.is("one road from " + day, x.soonest(0, day, 1), day + 1);
            due.is("two roads from " + day, x.soonest(0, day, 2), day + 31);
            due.is("two roads back from " + day, x.soonest(2, day, 0), day + 31);
        }
        x.road(0, 2, 30);
        due.is("one road that is shorter than two", x.soonest(0, 0, 2), 30);
        x.road(1, 2, 28);
        due.is("two that are shorter than one", x.soonest(0, 0, 2), 29);
    }

    /** "(DAY 999 at most; NONE)" */
    private static void day999AtMost() {
        for (int days = 1; days <= 30; days += 29) {
            CoverMarks x = new CoverMarks();
            x.road(0, 1, days);
            x.road(1, 2, days);
            due.is("road of " + days + " to day 999", x.soonest(0, 999 - days, 1), 999);
            due.is("road of " + days + " a day beyond", x.soonest(0, 1000 - days, 1), NONE);
            due.is("road of " + days + " far beyond", x.soonest(0, 999, 1), NONE);
            due.is("two to day 999", x.soonest(0, 999 - 2 * days, 2), 999);
            due.is("two, a day beyond", x.soonest(0, 1000 - 2 * days, 2), NONE);
        }
        CoverMarks y = new CoverMarks();
        y.sail(0, 1, 999, 999);
        due.is("a sailing on day 999", y.soonest(0, 999, 1), 999);
        y.road(1, 2, 1);
        due.is("and no road then", y.soonest(0, 999, 2), NONE);
    }

    private static void toWhereOneIs() {
        for (int town = 0; town < 6; town++) {
            CoverMarks x = new CoverMarks();
            x.road(town, (town + 1) % 6, 1);
            due.is("on day 0", x.soonest(town, 0, town), 0);
            due.is("on day 999", x.soonest(town, 999, town), 999);
            due.is("on no day", x.soonest(town, 1000, town), BAD);
            due.is("on no day", x.soonest(town, -1, town), BAD);
        }
    }

    /** A way through all six towns, told in either order. */
    private static void throughAllTowns() {
        CoverMarks x = new CoverMarks();
        CoverMarks y = new CoverMarks();
        CoverMarks z = new CoverMarks();
        for (int i = 0; i < 5; i++) {
            x.sail(i, i + 1, 10 * i, 10 * i + 10);
            y.sail(4 - i, 5 - i, 10 * (4 - i), 10 * (4 - i) + 10);
            if (i % 2 == 0) {
                z.sail(i, i + 1, 10 * i, 10 * i + 7);
            } else {
                z.road(i, i + 1, 3);
            }
        }
        due.is("told from ahead", x.soonest(0, 0, 5), 50);
        due.is("told from behind", y.soonest(0, 0, 5), 50);
        due.is("by sailings and roads", z.soonest(0, 0, 5), 47);
        due.is("a day later", x.soonest(0, 1, 5), NONE);
        due.is("a day later", y.soonest(0, 1, 5), NONE);
        due.is("a day later", z.soonest(0, 1, 5), NONE);
    }
}
