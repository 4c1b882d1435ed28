import java.util.Random;

/** Runs of calls by fixed seeds, each answer compared with that of the plain second writing. */
public final class RandomRunTest {
    private static final int NONE = CoverMarks.NONE;
    private static final Due due = new Due();
    private final Random dice;
    private final CoverMarks x = new CoverMarks();
    private final PlainCoverMarks y = new PlainCoverMarks();
    /** Few covers, towns and days make marks meet; many make them miss. */
    private final int covers;
    private final int towns;
    private final int days;
    /** Of so many bytes of a date or stretches of days one is narrow: with more of them covers go. */
    private final int ease;
    private final String run;
    private final int askedBefore = due.asked();

    private RandomRunTest(int seed) {
        dice = new Random(seed);
        covers = 1 + dice.nextInt(8);
        towns = 2 + dice.nextInt(5);
        days = new int[] {30, 100, 300, 1000}[dice.nextInt(4)];
        ease = 1 + dice.nextInt(8);
        run = "seed " + seed + " ";
    }

    public static void main(String[] args) {
        int seeds = args.length > 0 ? Integer.parseInt(args[0]) : 240;
        for (int seed = 0; seed < seeds; seed++) {
            new RandomRunTest(seed).go();
        }
        due.end();
    }

    private void go() {
        int asks = 100 + dice.nextInt(412);
        for (int i = 0; i < asks && callsLeft() > 0; i++) {
            boolean early = i < asks / 3;
            int what = dice.nextInt(early ? 13 : 32);
            if (what < 13 && (early || dice.nextInt(3) == 0)) {
                build(what);
            } else if (what < 23) {
                askMarks(dice.nextInt(12));
            } else {
                askRatesAndMails(dice.nextInt(12));
            }
        }
    }

    /** An object is good for 512 calls; each answer that is compared is one. */
    private int callsLeft() {
        return 512 - (due.asked() - askedBefore);
    }

    /** A number below a bound; now and then one that may be wrong. */
    private int below(int bound) {
        int chance = dice.nextInt(150);
        if (chance == 0) {
            return bound;
        }
        if (chance == 1) {
            return new int[] {-1, NONE, Integer.MAX_VALUE, Integer.MIN_VALUE, 1000}[dice.nextInt(5)];
        }
        return dice.nextInt(Math.max(1, bound));
    }

    private int day() {
        return below(days);
    }

    private int orNone(int n) {
        return dice.nextInt(4) == 0 ? NONE : n;
    }

    private int dayFrom(int from, int width) {
        return dice.nextInt(60) == 0 ? day() : Math.min(999, from + dice.nextInt(width));
    }

    private int date() {
        String told = String.valueOf(1000 + dice.nextInt(days)).substring(1);
        char[] signs = told.toCharArray();
        for (int i = 0; i < 3; i++) {
            signs[i] = dice.nextInt(1 + ease) != 0 ? '?' : signs[i];
        }
        int date = Due.date(new String(signs));
        return dice.nextInt(100) == 0 ? date ^ 1 << dice.nextInt(32) : date;
    }

    private int cover() {
        return below(covers);
    }

    private int looked() {
        return below(20);
    }

    /** All days, or some of them: where a stretch begins. */
    private int firstDay() {
        return dice.nextInt(ease) == 0 ? below(1 + days / 3) : 0;
    }

    private int lastDay(int from) {
        return dice.nextInt(ease) == 0 ? dayFrom(from, days) : 999;
    }

    private void newOffice(int town) {
        int from = firstDay();
        int till = lastDay(from);
        due.is(run + "office", x.office(town, from, till), y.office(town, from, till));
    }

    private void newDie(int office) {
        int from = firstDay();
        int till = lastDay(from);
        int inks = below(16) | (dice.nextInt(ease) != 0 ? 3 : 0);
        int nick = orNone(day());
        due.is(run + "die", x.die(office, inks, from, till, nick), y.die(office, inks, from, till, nick));
    }

    /** How many marks with a die a cover has: places and bits beyond them are asked for now and then only. */
    private int chain(int cover, int asOf) {
        int many = 0;
        for (int m = 0; m < y.count(2); m++) {
            many += y.about(m, 0) == cover && y.about(m, 4) <= asOf && y.about(m, 2) != NONE ? 1 : 0;
        }
        return many;
    }

    private void build(int what) {
        int a = below(towns);
        int b = below(towns);
        int from = day();
        switch (what) {
            case 0: { int v = below(3); due.is(run + "town", x.town(a, v), y.town(a, v)); break; }
            case 1: newOffice(a); break;
            case 2: newDie(below(y.count(0))); break;
            case 3: case 4: { int t = dayFrom(from, 40); due.is(run + "sail", x.sail(a, b, from, t), y.sail(a, b, from, t)); break; }
            case 5: { int s = below(y.count(3)), c = orNone(day()); due.is(run + "late", x.late(s, c), y.late(s, c)); break; }
            case 6: { int d = orNone(1 + below(30)); due.is(run + "road", x.road(a, b, d), y.road(a, b, d)); break; }
            case 7: writeRates(); break;
            default: newMark(); break;
        }
    }

    private void newMark() {
        int cover = cover(), kind = below(6), ink = below(dice.nextInt(2) == 0 ? 2 : 4);
        int die = dice.nextInt(5) == 0 ? NONE : below(y.count(1));
        int nick = dice.nextInt(ease) != 0 ? NONE : below(2);
        int date = date(), sum = orNone(below(1000)), looked = looked();
        due.is(run + "mark", x.mark(cover, kind, die, ink, nick, date, sum, looked), y.mark(cover, kind, die, ink, nick, date, sum, looked));
    }

    private void askMarks(int what) {
        int mark = below(y.count(2)), cover = cover(), asOf = looked();
        switch (what) {
            case 0: { int kind = below(6); due.is(run + "lean", x.lean(kind, mark), y.lean(kind, mark)); break; }
            case 1: { int w = below(5); due.is(run + "about", x.about(mark, w), y.about(mark, w)); break; }
            case 2: { int w = below(3); due.is(run + "span", x.span(mark, w), y.span(mark, w)); break; }
            case 3: { int d = day(); due.is(run + "can", x.can(mark, d), y.can(mark, d)); break; }
            case 4: due.is(run + "marks", x.marks(cover, asOf), y.marks(cover, asOf)); break;
            case 5: case 6: { int f = below(towns), d = day(), t = below(towns); due.is(run + "soonest", x.soonest(f, d, t), y.soonest(f, d, t)); break; }
            case 7: { int s = dice.nextInt(3) == 0 ? 0 : below(1 << Math.min(11, chain(cover, asOf))); due.is(run + "goes", x.goes(cover, asOf, s), y.goes(cover, asOf, s)); break; }
            case 8: case 9: { int i = below(chain(cover, asOf)), l = below(2); due.is(run + "when", x.when(cover, asOf, i, l), y.when(cover, asOf, i, l)); break; }
            case 10: due.is(run + "bars", x.bars(cover, asOf), y.bars(cover, asOf)); break;
            default: { int w = below(3); due.is(run + "fewest", x.fewest(cover, asOf, w), y.fewest(cover, asOf, w)); break; }
        }
    }

    private void askRatesAndMails(int what) {
        int cover = cover(), asOf = looked(), from = below(dice.nextInt(5) == 0 ? 3 : 2), to = below(2), d = day(), grams = 1 + below(2000);
        switch (what) {
            case 0: due.is(run + "trace", x.trace(), y.trace()); break;
            case 1: { int w = below(7); due.is(run + "count", x.count(w), y.count(w)); break; }
            case 2: case 3: { int w = below(4); due.is(run + "owed", x.owed(from, to, d, grams, w), y.owed(from, to, d, grams, w)); break; }
            case 4: case 5: {
                int w = below(3);
                int sum = dice.nextInt(4) == 0 ? below(2000000) : Math.max(0, y.owed(from, to, d, grams, 0));
                due.is(run + "weights", x.weights(from, to, d, sum, w), y.weights(from, to, d, sum, w));
                break;
            }
            case 6: { int o = cover(); due.is(run + "mail", x.mail(cover, o, asOf), y.mail(cover, o, asOf)); break; }
            case 7: due.is(run + "heap", x.heap(cover, asOf), y.heap(cover, asOf)); break;
            case 8: case 9: { int die = below(y.count(1)); due.is(run + "many", x.many(die, asOf), y.many(die, asOf)); break; }
            default: due.is(run + "look", x.look(cover, asOf), y.look(cover, asOf)); break;
        }
    }

    private String blanks() {
        return "   ".substring(dice.nextInt(4));
    }

    private String someRule() {
        int first = firstDay();
        String[] tokens = {"rate", "" + below(2), ">", "" + below(2), ",", "" + first, "-", "" + lastDay(first), ":", "" + below(1000),
            "per", "" + (1 + below(dice.nextInt(2) == 0 ? 500 : 30))};
        StringBuilder rule = new StringBuilder();
        for (String token : tokens) {
            rule.append(blanks()).append(token);
        }
        if (dice.nextInt(2) == 0) {
            rule.append(blanks()).append("+").append(blanks()).append(below(1000));
        }
        if (dice.nextInt(2) == 0) {
            int of = 1 + below(99);
            rule.append(blanks()).append("part").append(blanks()).append(below(of + 1)).append("/").append(of);
        }
        return rule + (dice.nextInt(2) == 0 ? "due" : "") + blanks() + ";";
    }

    private void writeRates() {
        if (callsLeft() < 10) {
            return;
        }
        StringBuilder text = new StringBuilder();
        for (int r = dice.nextInt(8) == 0 ? 14 : dice.nextInt(6); r > 0; r--) {
            text.append(someRule());
        }
        for (int faults = dice.nextInt(3) - 1; faults > 0 && text.length() > 0; faults--) {
            int at = dice.nextInt(text.length());
            String signs = "aper due 0199>,-:+/; \t\u00ffZ";
            switch (dice.nextInt(3)) {
                case 0: text.deleteCharAt(at); break;
                case 1: text.insert(at, signs.charAt(dice.nextInt(signs.length()))); break;
                default: text.setLength(at); break;
            }
        }
        for (int at = 0; at < text.length() && callsLeft() > 2; ) {
            int n = Math.min(text.length() - at, 1 + dice.nextInt(8));
            long v = Due.pack(text.substring(at, at + n)) | (n < 8 ? dice.nextLong() << 8 * n : 0);
            due.is(run + "type", x.type(v, n), y.type(v, n));
            at += n;
        }
        due.is(run + "rates of '" + text + "'", x.rates(), y.rates());
        if (dice.nextInt(4) > 0) {
            due.is(run + "clear", x.clear(), y.clear());
        }
    }
}
