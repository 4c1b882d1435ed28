import java.util.ArrayList;
import java.util.Arrays;
import java.util.List;
import java.util.TreeSet;
import java.util.regex.Matcher;
import java.util.regex.Pattern;

/** The document once more, by other and slower ways, to compare the class with. */
final class PlainCoverMarks {
    private static final int BAD = -1, STATE = -2, FULL = -3, NONE = -9, NEVER = 5000;
    private final int[] lands = new int[6];
    private final List<int[]> offices = new ArrayList<>(), dies = new ArrayList<>(), marks = new ArrayList<>(), sailings = new ArrayList<>();
    private final int[][] roads = new int[6][6];
    private List<int[]> rules = new ArrayList<>();
    private String text = "";
    private long trace = 0;
    /** By day, town, town: the soonest day; null when the ways have changed. */
    private int[][][] table = null;

    PlainCoverMarks() {
        for (int[] row : roads) {
            Arrays.fill(row, NONE);
        }
    }

    private static boolean out(int n, int low, int high) {
        return n < low || n > high;
    }

    private static boolean noDay(int n) {
        return out(n, 0, 999);
    }

    private static int add(List<int[]> list, int most, int... row) {
        if (list.size() == most) {
            return FULL;
        }
        list.add(row);
        return list.size() - 1;
    }

    int town(int t, int v) {
        if (out(t, 0, 5) || out(v, 0, 2)) {
            return BAD;
        }
        int was = lands[t];
        lands[t] = v;
        return was;
    }

    int office(int town, int from, int till) {
        return out(town, 0, 5) || noDay(from) || noDay(till) || from > till ? BAD : add(offices, 8, town, from, till);
    }

    int die(int office, int inks, int from, int till, int nick) {
        if (out(office, 0, offices.size() - 1) || out(inks, 0, 15) || noDay(from) || noDay(till) || from > till || nick != NONE && noDay(nick)) {
            return BAD;
        }
        return add(dies, 12, office, inks, from, till, nick);
    }

    int mark(int cover, int kind, int die, int ink, int nick, int date, int sum, int looked) {
        boolean bad = out(cover, 0, 7) || out(kind, 0, 5) || die != NONE && out(die, 0, dies.size() - 1) || out(ink, 0, 3);
        bad |= nick != NONE && nick != 0 && nick != 1;
        bad |= sum != NONE && out(sum, 0, 999) || noDay(looked) || date >>> 24 != 0 || !signs(date).matches("[0-9?]{3}");
        return bad ? BAD : add(marks, 40, cover, kind, die, ink, nick, date, sum, looked);
    }

    private static String signs(int date) {
        return "" + (char) (date >> 16 & 255) + (char) (date >> 8 & 255) + (char) (date & 255);
    }

    private boolean noMark(int m) {
        return out(m, 0, marks.size() - 1);
    }

    int lean(int kind, int mark) {
        if (out(kind, 0, 5) || noMark(mark)) {
            return BAD;
        }
        int[] m = marks.get(mark);
        trace += new int[] {1, 11, 101, 1011, 10001, 100001}[kind];
        int base = m[2] == NONE ? 10 : 15;
        int dated = base + 4 * signs(m[5]).replace("?", "").length();
        return new int[] {base, dated, m[6] == NONE ? base : base + 7, dated * 4 / 3, base + m[3], base / 2}[kind];
    }

    int about(int mark, int what) {
        return noMark(mark) || out(what, 0, 4) ? BAD : marks.get(mark)[new int[] {0, 1, 2, 6, 7}[what]];
    }

    private TreeSet<Integer> days(int[] m, String signs) {
        TreeSet<Integer> days = new TreeSet<>();
        for (int day = 0; day < 1000; day++) {
            String told = String.valueOf(1000 + day).substring(1);
            boolean fits = true;
            for (int i = 0; i < 3; i++) {
                fits &= signs.charAt(i) == '?' || signs.charAt(i) == told.charAt(i);
            }
            if (fits && m[2] != NONE) {
                int[] die = dies.get(m[2]);
                int[] office = offices.get(die[0]);
                fits = day >= office[1] && day <= office[2] && day >= die[2] && day <= die[3] && (die[1] & 1 << m[3]) != 0;
                int from = die[4] == NONE ? NEVER : die[4];
                fits &= m[4] == NONE || m[4] == 1 && day >= from || m[4] == 0 && day < from;
            }
            if (fits) {
                days.add(day);
            }
        }
        return days;
    }

    private TreeSet<Integer> days(int[] m) {
        return days(m, signs(m[5]));
    }

    int span(int mark, int what) {
        if (noMark(mark) || out(what, 0, 2)) {
            return BAD;
        }
        TreeSet<Integer> days = days(marks.get(mark));
        return what == 0 ? days.size() : days.isEmpty() ? NONE : what == 1 ? days.first() : days.last();
    }

    int can(int mark, int day) {
        return noMark(mark) || noDay(day) ? BAD : days(marks.get(mark)).contains(day) ? 1 : 0;
    }

    private List<int[]> on(int cover, int asOf) {
        List<int[]> found = new ArrayList<>();
        for (int[] m : marks) {
            if (m[0] == cover && m[7] <= asOf) {
                found.add(m);
            }
        }
        return found;
    }

    private static boolean noCover(int cover, int asOf) {
        return out(cover, 0, 7) || noDay(asOf);
    }

    int marks(int cover, int asOf) {
        return noCover(cover, asOf) ? BAD : on(cover, asOf).size();
    }

    int sail(int from, int to, int leaves, int comes) {
        if (out(from, 0, 5) || out(to, 0, 5) || from == to || noDay(leaves) || noDay(comes) || comes < leaves) {
            return BAD;
        }
        table = null;
        return add(sailings, 20, from, to, leaves, comes);
    }

    int late(int sailing, int comes) {
        if (out(sailing, 0, sailings.size() - 1) || comes != NONE && (noDay(comes) || comes < sailings.get(sailing)[2])) {
            return BAD;
        }
        table = null;
        int was = sailings.get(sailing)[3];
        sailings.get(sailing)[3] = comes;
        return was;
    }

    int road(int a, int b, int days) {
        if (out(a, 0, 5) || out(b, 0, 5) || a == b || days != NONE && out(days, 1, 30)) {
            return BAD;
        }
        table = null;
        int was = roads[a][b];
        roads[a][b] = roads[b][a] = days;
        return was;
    }

    /** From the last day to the first: to wait, to drive, to sail, and then as from there. */
    private int soon(int from, int day, int to) {
        if (table == null) {
            table = new int[1031][6][6];
            for (int d = 1030; d >= 0; d--) {
                for (int a = 0; a < 6; a++) {
                    for (int b = 0; b < 6; b++) {
                        table[d][a][b] = d > 999 ? NEVER : a == b ? d : table[d + 1][a][b];
                        for (int c = 0; c < 6 && d <= 999; c++) {
                            if (roads[a][c] != NONE) {
                                table[d][a][b] = Math.min(table[d][a][b], table[d + roads[a][c]][c][b]);
                            }
                        }
                    }
                }
                sailOn(d);
            }
        }
        return table[day][from][to];
    }

    private void sailOn(int d) {
        for (int round = 0; round < 7; round++) {
            for (int[] s : sailings) {
                for (int b = 0; b < 6 && s[2] == d && s[3] != NONE; b++) {
                    table[d][s[0]][b] = Math.min(table[d][s[0]][b], table[s[3]][s[1]][b]);
                }
            }
        }
    }

    int soonest(int from, int day, int to) {
        if (out(from, 0, 5) || noDay(day) || out(to, 0, 5)) {
            return BAD;
        }
        return soon(from, day, to) == NEVER ? NONE : soon(from, day, to);
    }

    private List<int[]> chain(int cover, int asOf) {
        List<int[]> chain = on(cover, asOf);
        chain.removeIf(m -> m[2] == NONE);
        return chain;
    }

    private int townOf(int[] m) {
        return offices.get(dies.get(m[2])[0])[0];
    }

    /** For each mark all days that it can have with those ahead of it. */
    private List<TreeSet<Integer>> forward(List<int[]> chain) {
        List<TreeSet<Integer>> all = new ArrayList<>();
        for (int i = 0; i < chain.size(); i++) {
            TreeSet<Integer> mine = days(chain.get(i));
            if (i > 0) {
                int at = i;
                mine.removeIf(d -> all.get(at - 1).stream().noneMatch(e -> soon(townOf(chain.get(at - 1)), e, townOf(chain.get(at))) <= d));
            }
            all.add(mine);
        }
        return all;
    }

    private boolean goes(List<int[]> chain) {
        return forward(chain).stream().noneMatch(TreeSet::isEmpty);
    }

    private static List<int[]> without(List<int[]> chain, int letBe) {
        List<int[]> kept = new ArrayList<>();
        for (int i = 0; i < chain.size(); i++) {
            if ((letBe & 1 << i) == 0) {
                kept.add(chain.get(i));
            }
        }
        return kept;
    }

    int goes(int cover, int asOf, int letBe) {
        if (noCover(cover, asOf)) {
            return BAD;
        }
        List<int[]> chain = chain(cover, asOf);
        if (chain.size() > 10) {
            return STATE;
        }
        return letBe >>> chain.size() != 0 ? BAD : goes(without(chain, letBe)) ? 1 : 0;
    }

    int when(int cover, int asOf, int i, int late) {
        if (noCover(cover, asOf) || out(late, 0, 1)) {
            return BAD;
        }
        List<int[]> chain = chain(cover, asOf);
        if (chain.size() > 10) {
            return STATE;
        }
        if (out(i, 0, chain.size() - 1)) {
            return BAD;
        }
        List<TreeSet<Integer>> all = forward(chain);
        for (int k = chain.size() - 2; k >= i; k--) {
            int at = k;
            all.get(k).removeIf(d -> all.get(at + 1).stream().noneMatch(e -> soon(townOf(chain.get(at)), d, townOf(chain.get(at + 1))) <= e));
        }
        if (!goes(chain)) {
            return NONE;
        }
        return late == 0 ? all.get(i).first() : all.get(i).last();
    }

    int bars(int cover, int asOf) {
        if (noCover(cover, asOf)) {
            return BAD;
        }
        List<int[]> chain = chain(cover, asOf);
        if (chain.size() > 10) {
            return STATE;
        }
        for (int i = 0; i < chain.size(); i++) {
            if (!goes(chain.subList(0, i + 1))) {
                return i;
            }
        }
        return NONE;
    }

    int fewest(int cover, int asOf, int what) {
        if (noCover(cover, asOf) || out(what, 0, 2)) {
            return BAD;
        }
        List<int[]> chain = chain(cover, asOf);
        if (chain.size() > 10) {
            return STATE;
        }
        for (int many = 0; ; many++) {
            int least = NONE;
            int rivals = 0;
            for (int set = (1 << chain.size()) - 1; set >= 0; set--) {
                if (Integer.bitCount(set) == many && goes(without(chain, set))) {
                    least = set;
                    rivals++;
                }
            }
            if (rivals > 0) {
                return what == 0 ? many : what == 1 ? least : rivals;
            }
        }
    }

    int type(long v, int n) {
        if (out(n, 1, 8)) {
            return BAD;
        }
        if (text.length() + n > 600) {
            return FULL;
        }
        String typed = "";
        for (int i = 0; i < n; i++) {
            typed = (char) (v & 255) + typed;
            v >>= 8;
        }
        text += typed;
        return text.length();
    }

    int clear() {
        int was = text.length();
        text = "";
        return was;
    }

    /** The state says which tokens may stand next: their kind, the number's bounds and where it goes. */
    int rates() {
        List<int[]> read = new ArrayList<>();
        Matcher m = Pattern.compile(" *([a-z]+|[0-9]+|.)", Pattern.DOTALL).matcher(text.replaceAll(" +$", ""));
        String state = "start";
        int[] rule = null;
        while (m.find()) {
            String token = m.group(1);
            int place = m.start(1);
            boolean number = token.matches("0|[1-9][0-9]{0,3}");
            int value = number ? Integer.parseInt(token) : -1;
            String next = "";
            switch (state) {
                case "start": next = token.equals("rate") && read.size() < 12 ? "from" : ""; rule = new int[] {0, 0, 0, 0, 0, 1, 0, 1, 1, 0}; break;
                case "from": next = put(rule, 0, value, 0, 2, ">"); break;
                case ">": next = token.equals(">") ? "to" : ""; break;
                case "to": next = put(rule, 1, value, 0, 2, ","); break;
                case ",": next = token.equals(",") ? "first" : ""; break;
                case "first": next = put(rule, 2, value, 0, 999, "-"); break;
                case "-": next = token.equals("-") ? "last" : ""; break;
                case "last": next = put(rule, 3, value, rule[2], 999, ":"); break;
                case ":": next = token.equals(":") ? "sum" : ""; break;
                case "sum": next = put(rule, 4, value, 0, 999, "per"); break;
                case "per": next = token.equals("per") ? "grams" : ""; break;
                case "grams": next = put(rule, 5, value, 1, 500, "+part due ;"); break;
                case "other": next = put(rule, 6, value, 0, 999, "part due ;"); break;
                case "a": next = put(rule, 7, value, 0, 99, "/"); break;
                case "/": next = token.equals("/") ? "b" : ""; break;
                case "b": next = value >= 1 ? put(rule, 8, value, rule[7], 99, "due ;") : ""; break;
                default:
                    if (!number && state.contains(token) && List.of("+", "part", "due", ";").contains(token)) {
                        next = token.equals("+") ? "other" : token.equals("part") ? "a" : token.equals("due") ? ";" : "start";
                        rule[9] |= token.equals("due") ? 1 : 0;
                        if (token.equals(";")) {
                            read.add(rule);
                        }
                    }
            }
            if (next.isEmpty()) {
                return -10 - place;
            }
            state = next;
        }
        if (!state.equals("start")) {
            return -10 - text.length();
        }
        rules = read;
        text = "";
        return rules.size();
    }

    private static String put(int[] rule, int at, int value, int low, int high, String next) {
        rule[at] = value;
        return value < low || value > high ? "" : next;
    }

    private int find(int from, int to, int day) {
        int found = NONE;
        for (int r = 0; r < rules.size(); r++) {
            int[] rule = rules.get(r);
            if (rule[0] == from && rule[1] == to && day >= rule[2] && day <= rule[3]) {
                found = r;
            }
        }
        return found;
    }

    private static long sum(int[] rule, int grams) {
        long sum = rule[4];
        for (int left = grams - rule[5]; left > 0; left -= rule[5]) {
            sum += rule[6];
        }
        return sum;
    }

    int owed(int from, int to, int day, int grams, int what) {
        if (out(from, 0, 2) || out(to, 0, 2) || noDay(day) || out(grams, 1, 2000) || out(what, 0, 3)) {
            return BAD;
        }
        int place = find(from, to, day);
        if (place == NONE) {
            return NONE;
        }
        int[] rule = rules.get(place);
        long sum = sum(rule, grams);
        return (int) new long[] {sum, sum * rule[7] / rule[8], rule[9], place}[what];
    }

    int weights(int from, int to, int day, int sum, int what) {
        if (out(from, 0, 2) || out(to, 0, 2) || noDay(day) || out(sum, 0, 2000000) || out(what, 0, 2)) {
            return BAD;
        }
        int place = find(from, to, day);
        TreeSet<Integer> fit = new TreeSet<>();
        for (int grams = 1; grams <= 2000 && place != NONE; grams++) {
            if (sum(rules.get(place), grams) == sum) {
                fit.add(grams);
            }
        }
        return what == 0 ? fit.size() : fit.isEmpty() ? NONE : what == 1 ? fit.first() : fit.last();
    }

    private boolean oneMail(int a, int b, int asOf) {
        for (int[] m : on(a, asOf)) {
            for (int[] o : on(b, asOf)) {
                if (m[2] != NONE && m[2] == o[2]) {
                    TreeSet<Integer> both = days(m);
                    both.retainAll(days(o));
                    if (!both.isEmpty()) {
                        return true;
                    }
                }
            }
        }
        return false;
    }

    int mail(int a, int b, int asOf) {
        return noCover(a, asOf) || noCover(b, asOf) || a == b ? BAD : oneMail(a, b, asOf) ? 1 : 0;
    }

    int heap(int cover, int asOf) {
        if (noCover(cover, asOf)) {
            return BAD;
        }
        boolean[][] way = new boolean[8][8];
        for (int a = 0; a < 8; a++) {
            for (int b = 0; b < 8; b++) {
                way[a][b] = a == b || oneMail(a, b, asOf);
            }
        }
        for (int c = 0; c < 8; c++) {
            for (int a = 0; a < 8; a++) {
                for (int b = 0; b < 8; b++) {
                    way[a][b] |= way[a][c] && way[c][b];
                }
            }
        }
        int heap = 0;
        for (int b = 0; b < 8; b++) {
            heap |= way[cover][b] ? 1 << b : 0;
        }
        return heap;
    }

    int many(int die, int asOf) {
        if (out(die, 0, dies.size() - 1) || noDay(asOf)) {
            return BAD;
        }
        int n = 0;
        int[] covers = new int[1000];
        for (int cover = 0; cover < 8; cover++) {
            List<int[]> mine = on(cover, asOf);
            mine.removeIf(m -> m[2] != die);
            TreeSet<Integer> days = new TreeSet<>();
            mine.forEach(m -> days.addAll(days(m)));
            n += mine.isEmpty() ? 0 : 1;
            days.forEach(d -> covers[d]++);
        }
        long s = Arrays.stream(covers).filter(c -> c == 1).count();
        long t = Arrays.stream(covers).filter(c -> c == 2).count();
        return (int) (n + (t > 0 ? s * s / (2 * t) : s * (s - 1) / 2));
    }

    int look(int cover, int asOf) {
        if (noCover(cover, asOf)) {
            return BAD;
        }
        int best = NONE;
        int least = NEVER;
        for (int number = 0; number < marks.size(); number++) {
            int[] m = marks.get(number);
            for (int place = 0; place < 3; place++) {
                if (m[0] != cover || m[7] > asOf || signs(m[5]).charAt(place) != '?') {
                    continue;
                }
                int worst = 0;
                for (char figure = '0'; figure <= '9'; figure++) {
                    StringBuilder read = new StringBuilder(signs(m[5]));
                    read.setCharAt(place, figure);
                    worst = Math.max(worst, days(m, read.toString()).size());
                }
                if (worst < days(m).size() && worst < least) {
                    least = worst;
                    best = 3 * number + place;
                }
            }
        }
        return best;
    }

    int count(int what) {
        if (out(what, 0, 6)) {
            return BAD;
        }
        int lost = (int) sailings.stream().filter(s -> s[3] == NONE).count();
        return new int[] {offices.size(), dies.size(), marks.size(), sailings.size(), rules.size(), text.length(), lost}[what];
    }

    long trace() {
        return trace;
    }
}
