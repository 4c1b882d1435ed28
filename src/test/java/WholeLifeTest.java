/** "An object is used for at most 512 calls after it has been made": the 512th still answers as is due. */
public final class WholeLifeTest {
    private static final int NONE = CoverMarks.NONE, BAD = CoverMarks.BAD, STATE = CoverMarks.STATE, FULL = CoverMarks.FULL;
    private static final int CALLS = 512;
    private static final Due due = new Due();

    public static void main(String[] args) {
        oneCallAgainAndAgain();
        refusedTillTheLast();
        ratesAgainAndAgain();
        manyObjects();
        due.end();
    }

    /** Each question of a full object as often as may be: what it holds neither wears out nor grows. */
    private static void oneCallAgainAndAgain() {
        int[][] numbers = {{1, 9, 1}, {1, 999, 0}, {1, 999, 1}, {1, 999, 2}};
        String[] names = {"goes", "fewest", "fewest", "fewest"};
        for (int i = 0; i < names.length; i++) {
            CoverMarks x = States.full();
            long first = Calls.ask(x, names[i], numbers[i]);
            for (int call = 0; call < 300; call++) {
                due.is(Calls.told(names[i], numbers[i]), Calls.ask(x, names[i], numbers[i]), first);
            }
        }
        CoverMarks y = new CoverMarks();
        for (int call = 1; call < CALLS; call++) {
            due.is("count", y.count(0), 0);
        }
        due.is("the 512th call", y.office(0, 0, 999), 0);
    }

    private static void refusedTillTheLast() {
        CoverMarks x = new CoverMarks();
        for (int i = 0; i < 8; i++) {
            x.office(0, 0, 999);
        }
        for (int call = 8; call < CALLS - 1; call++) {
            due.is("full", x.office(0, 0, 999), FULL);
        }
        due.is("the 512th call", x.count(0), 8);
        CoverMarks y = new CoverMarks();
        y.office(0, 0, 999);
        y.die(0, 1, 0, 999, NONE);
        for (int i = 0; i < 11; i++) {
            y.mark(0, 0, 0, 0, NONE, Due.date("???"), NONE, 0);
        }
        for (int call = 13; call < CALLS - 2; call++) {
            due.is("eleven marks", y.goes(0, 0, call), STATE);
        }
        due.is("another cover", y.goes(1, 0, 0), 1);
        due.is("the 512th call", y.goes(8, 0, 0), BAD);
    }

    private static void ratesAgainAndAgain() {
        CoverMarks x = new CoverMarks();
        for (int round = 0; round < 85; round++) {
            // four calls of type, so that a round is six calls
            Due.type(x, "rate 0>1,0-9:" + round % 10 + " per 5+1 due;");
            due.is("rates", x.rates(), 1);
            due.is("owed", x.owed(0, 1, 9, 5, 0), round % 10);
        }
        due.is("the 511th call", x.count(4), 1);
        due.is("the 512th call", x.count(5), 0);
    }

    private static void manyObjects() {
        // objects live side by side, and none knows of another
        CoverMarks[] all = new CoverMarks[50];
        for (int i = 0; i < all.length; i++) {
            all[i] = new CoverMarks();
            for (int k = 0; k <= i % 8; k++) {
                all[i].office(k % 6, 0, 999);
            }
            all[i].town(0, i % 3);
            all[i].type(0, 1 + i % 8);
        }
        for (int i = 0; i < all.length; i++) {
            due.is("offices of its own", all[i].count(0), Math.min(8, i % 8 + 1));
            due.is("land of its own", all[i].town(0, 0), i % 3);
            due.is("text of its own", all[i].clear(), 1 + i % 8);
        }
    }
}
