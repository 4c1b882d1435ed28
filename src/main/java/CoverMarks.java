import java.util.Arrays;

/** Marks on letters: what offices, dies, ships, roads and rates let a cover's marks mean. */
public final class CoverMarks {
    public static final int BAD = -1, STATE = -2, FULL = -3, NONE = -9;

    private static final int DAYS = 1000, TOWNS = 6, LANDS = 3, COVERS = 8, KINDS = 6, INKS = 4;
    private static final int MAX_OFFICES = 8, MAX_DIES = 12, MAX_MARKS = 40, MAX_SAILINGS = 20;
    private static final int MAX_CHAIN = 10, MAX_ROAD = 30;
    private static final int MAX_TEXT = 600, MAX_RULES = 12, MAX_GRAMS = 2000, MAX_OWED = 2000000;
    private static final int DATE_BYTES = 3, TORN = '?';

    private final int[] lands = new int[TOWNS];
    private final Office[] offices = new Office[MAX_OFFICES];
    private final Die[] dies = new Die[MAX_DIES];
    private final Covers covers = new Covers();
    private final Leaning leaning = new Leaning();
    private final Ways ways = new Ways();
    private final Going going = new Going(ways);
    private final RateText text = new RateText();
    private RateBook book = new RateBook();
    private RateBook spareBook = new RateBook();
    private int officeCount = 0;
    private int dieCount = 0;

    public CoverMarks() {
    }

    // ---- offices, dies

    public int town(int t, int v) {
        if (!within(t, 0, TOWNS - 1) || !within(v, 0, LANDS - 1)) {
            return BAD;
        }
        int before = lands[t];
        lands[t] = v;
        return before;
    }

    public int office(int town, int from, int till) {
        if (!within(town, 0, TOWNS - 1) || !isStretch(from, till)) {
            return BAD;
        }
        if (officeCount >= MAX_OFFICES) {
            return FULL;
        }
        offices[officeCount] = new Office(town, from, till);
        return officeCount++;
    }

    public int die(int office, int inks, int from, int till, int nick) {
        if (!within(office, 0, officeCount - 1) || !within(inks, 0, (1 << INKS) - 1)) {
            return BAD;
        }
        if (!isStretch(from, till) || !isDayOrNone(nick)) {
            return BAD;
        }
        if (dieCount >= MAX_DIES) {
            return FULL;
        }
        dies[dieCount] = new Die(offices[office], inks, from, till, nick);
        return dieCount++;
    }

    // ---- covers, marks

    public int mark(int cover, int kind, int die, int ink, int nick, int date, int sum, int looked) {
        if (!isCover(cover) || !within(kind, 0, KINDS - 1) || !isDay(looked)) {
            return BAD;
        }
        if (die != NONE && !within(die, 0, dieCount - 1)) {
            return BAD;
        }
        if (!within(ink, 0, INKS - 1) || nick != NONE && !within(nick, 0, 1)) {
            return BAD;
        }
        if (!isDate(date) || sum != NONE && !within(sum, 0, 999)) {
            return BAD;
        }
        if (covers.count >= MAX_MARKS) {
            return FULL;
        }
        Mark made = new Mark(cover, kind, looked);
        made.write(date, sum);
        made.strike(die, die == NONE ? null : dies[die], ink, nick);
        made.findDays();
        return covers.add(made);
    }

    public int lean(int kind, int mark) {
        if (!within(kind, 0, KINDS - 1) || !isMark(mark)) {
            return BAD;
        }
        return leaning.ofKind(kind, covers.marks[mark]);
    }

    public int about(int mark, int what) {
        if (!isMark(mark) || !within(what, 0, 4)) {
            return BAD;
        }
        Mark asked = covers.marks[mark];
        switch (what) {
            case 0: return asked.cover;
            case 1: return asked.kind;
            case 2: return asked.dieNumber;
            case 3: return asked.sum;
            default: return asked.looked;
        }
    }

    public int span(int mark, int what) {
        if (!isMark(mark) || !within(what, 0, 2)) {
            return BAD;
        }
        DaySet days = covers.marks[mark].days;
        switch (what) {
            case 0: return days.size();
            case 1: return days.firstFrom(0);
            default: return days.lastTill(DAYS - 1);
        }
    }

    public int can(int mark, int day) {
        if (!isMark(mark) || !isDay(day)) {
            return BAD;
        }
        return covers.marks[mark].days.has(day) ? 1 : 0;
    }

    public int marks(int cover, int asOf) {
        if (!isCover(cover) || !isDay(asOf)) {
            return BAD;
        }
        return covers.countOn(cover, asOf);
    }

    // ---- ways

    public int sail(int from, int to, int leaves, int comes) {
        // a sailing is lost by late() alone: only there does the document tell NONE
        if (!areTwoTowns(from, to) || !isStretch(leaves, comes)) {
            return BAD;
        }
        if (ways.sailings >= MAX_SAILINGS) {
            return FULL;
        }
        return ways.addSailing(from, to, leaves, comes);
    }

    public int late(int sailing, int comes) {
        if (!within(sailing, 0, ways.sailings - 1)) {
            return BAD;
        }
        if (comes != NONE && !isStretch(ways.leaves[sailing], comes)) {
            return BAD;
        }
        int before = ways.comes[sailing];
        ways.comes[sailing] = comes;
        return before;
    }

    public int road(int a, int b, int days) {
        if (!areTwoTowns(a, b) || days != NONE && !within(days, 1, MAX_ROAD)) {
            return BAD;
        }
        int before = ways.roads[a][b];
        ways.roads[a][b] = days;
        ways.roads[b][a] = days;
        return before;
    }

    public int soonest(int from, int day, int to) {
        if (!within(from, 0, TOWNS - 1) || !isDay(day) || !within(to, 0, TOWNS - 1)) {
            return BAD;
        }
        ways.spreadFrom(from, day);
        return ways.soonest[to] < DAYS ? ways.soonest[to] : NONE;
    }

    public int goes(int cover, int asOf, int letBe) {
        if (!isCover(cover) || !isDay(asOf)) {
            return BAD;
        }
        if (!going.gather(covers, cover, asOf)) {
            return STATE;
        }
        if (!within(letBe, 0, (1 << going.length) - 1)) {
            return BAD;
        }
        return going.firstBarred(letBe) == NONE ? 1 : 0;
    }

    public int when(int cover, int asOf, int i, int late) {
        if (!isCover(cover) || !isDay(asOf) || !within(late, 0, 1)) {
            return BAD;
        }
        if (!going.gather(covers, cover, asOf)) {
            return STATE;
        }
        if (!within(i, 0, going.length - 1)) {
            return BAD;
        }
        if (going.firstBarred(0) != NONE) {
            return NONE;
        }
        return late == 0 ? going.soon[i] : going.lastDayOf(i);
    }

    public int bars(int cover, int asOf) {
        if (!isCover(cover) || !isDay(asOf)) {
            return BAD;
        }
        if (!going.gather(covers, cover, asOf)) {
            return STATE;
        }
        return going.firstBarred(0);
    }

    public int fewest(int cover, int asOf, int what) {
        if (!isCover(cover) || !isDay(asOf) || !within(what, 0, 2)) {
            return BAD;
        }
        if (!going.gather(covers, cover, asOf)) {
            return STATE;
        }
        going.weighSets();
        switch (what) {
            case 0: return going.fewestLetBe;
            case 1: return going.leastSet;
            default: return going.rivals;
        }
    }

    // ---- rates

    public int type(long v, int n) {
        if (!within(n, 1, 8)) {
            return BAD;
        }
        if (text.length + n > MAX_TEXT) {
            return FULL;
        }
        text.addBytes(v, n);
        return text.length;
    }

    public int clear() {
        int before = text.length;
        text.length = 0;
        return before;
    }

    public int rates() {
        int fault = text.readInto(spareBook);
        if (fault != NONE) {
            return -10 - fault;
        }
        RateBook read = spareBook;
        spareBook = book;
        book = read;
        text.length = 0;
        return book.count;
    }

    public int owed(int from, int to, int day, int grams, int what) {
        if (!areLandsAndDay(from, to, day) || !within(grams, 1, MAX_GRAMS) || !within(what, 0, 3)) {
            return BAD;
        }
        int place = book.lastThatHolds(from, to, day);
        if (place == NONE) {
            return NONE;
        }
        Rule rule = book.rules[place];
        switch (what) {
            case 0: return rule.sumFor(grams);
            case 1: return rule.partOf(rule.sumFor(grams));
            case 2: return rule.due ? 1 : 0;
            default: return place;
        }
    }

    public int weights(int from, int to, int day, int sum, int what) {
        if (!areLandsAndDay(from, to, day) || !within(sum, 0, MAX_OWED) || !within(what, 0, 2)) {
            return BAD;
        }
        int place = book.lastThatHolds(from, to, day);
        int many = 0;
        int least = NONE;
        int greatest = NONE;
        for (int grams = 1; grams <= MAX_GRAMS && place != NONE; grams++) {
            if (book.rules[place].sumFor(grams) == sum) {
                many++;
                least = least == NONE ? grams : least;
                greatest = grams;
            }
        }
        switch (what) {
            case 0: return many;
            case 1: return least;
            default: return greatest;
        }
    }

    // ---- mails, looks

    public int mail(int a, int b, int asOf) {
        if (!isCover(a) || !isCover(b) || a == b || !isDay(asOf)) {
            return BAD;
        }
        return covers.areOneMail(a, b, asOf) ? 1 : 0;
    }

    public int heap(int cover, int asOf) {
        if (!isCover(cover) || !isDay(asOf)) {
            return BAD;
        }
        return covers.heapOf(cover, asOf);
    }

    public int many(int die, int asOf) {
        if (!within(die, 0, dieCount - 1) || !isDay(asOf)) {
            return BAD;
        }
        return covers.manyOf(die, asOf);
    }

    public int look(int cover, int asOf) {
        if (!isCover(cover) || !isDay(asOf)) {
            return BAD;
        }
        return covers.nextLook(cover, asOf);
    }

    public int count(int what) {
        switch (what) {
            case 0: return officeCount;
            case 1: return dieCount;
            case 2: return covers.count;
            case 3: return ways.sailings;
            case 4: return book.count;
            case 5: return text.length;
            case 6: return ways.lostSailings();
            default: return BAD;
        }
    }

    public long trace() {
        return leaning.trace;
    }

    // ---- what numbers may be

    private static boolean within(int number, int low, int high) {
        return number >= low && number <= high;
    }

    private static boolean isDay(int number) {
        return within(number, 0, DAYS - 1);
    }

    private static boolean isDayOrNone(int number) {
        return number == NONE || isDay(number);
    }

    private static boolean isStretch(int from, int till) {
        return isDay(from) && isDay(till) && from <= till;
    }

    private static boolean isCover(int number) {
        return within(number, 0, COVERS - 1);
    }

    private boolean isMark(int number) {
        return within(number, 0, covers.count - 1);
    }

    private static boolean areTwoTowns(int a, int b) {
        return within(a, 0, TOWNS - 1) && within(b, 0, TOWNS - 1) && a != b;
    }

    private static boolean areLandsAndDay(int from, int to, int day) {
        return within(from, 0, LANDS - 1) && within(to, 0, LANDS - 1) && isDay(day);
    }

    private static boolean isDate(int date) {
        if (!within(date, 0, 0xFFFFFF)) {
            return false;
        }
        for (int place = 0; place < DATE_BYTES; place++) {
            int sign = byteOf(date, place);
            if (sign != TORN && !within(sign, '0', '9')) {
                return false;
            }
        }
        return true;
    }

    private static int byteOf(int date, int place) {
        return date >> 8 * (DATE_BYTES - 1 - place) & 255;
    }

    private static int figureOf(int day, int place) {
        switch (place) {
            case 0: return day / 100;
            case 1: return day / 10 % 10;
            default: return day % 10;
        }
    }

    /** Days as bits, so that marks are compared many days at a time. */
    private static final class DaySet {
        static final int WORDS = (DAYS + 63) / 64;

        final long[] words = new long[WORDS];

        void add(int day) {
            if (isDay(day)) {
                words[day >> 6] |= 1L << (day & 63);
            }
        }

        boolean has(int day) {
            return isDay(day) && (words[day >> 6] >>> (day & 63) & 1L) == 1L;
        }

        int size() {
            int size = 0;
            for (int w = 0; w < WORDS; w++) {
                size += Long.bitCount(words[w]);
            }
            return size;
        }

        int firstFrom(int from) {
            int day = Math.max(from, 0);
            while (day < DAYS) {
                if (has(day)) {
                    return day;
                }
                // an empty word is left at once: going is asked of a thousand sets
                day = words[day >> 6] == 0L ? (day | 63) + 1 : day + 1;
            }
            return NONE;
        }

        int lastTill(int till) {
            int day = Math.min(till, DAYS - 1);
            while (day >= 0) {
                if (has(day)) {
                    return day;
                }
                day = words[day >> 6] == 0L ? (day & ~63) - 1 : day - 1;
            }
            return NONE;
        }

        boolean meets(DaySet other) {
            for (int w = 0; w < WORDS; w++) {
                if ((words[w] & other.words[w]) != 0L) {
                    return true;
                }
            }
            return false;
        }
    }

    private static final class Office {
        final int town;
        final int from;
        final int till;

        Office(int town, int from, int till) {
            this.town = town;
            this.from = from;
            this.till = till;
        }
    }

    private static final class Die {
        final Office office;
        final int inks;
        final int from;
        final int till;
        final int nick;

        Die(Office office, int inks, int from, int till, int nick) {
            this.office = office;
            this.inks = inks;
            this.from = from;
            this.till = till;
            this.nick = nick;
        }

        boolean strikesOn(int day) {
            return within(day, from, till) && within(day, office.from, office.till);
        }

        boolean hasInk(int ink) {
            return (inks >> ink & 1) == 1;
        }

        boolean fitsNick(int seen, int day) {
            boolean nicked = nick != NONE && day >= nick;
            return seen == NONE || nicked == (seen == 1);
        }
    }

    /** A mark; its days are found once, since offices and dies never change. */
    private static final class Mark {
        final int cover;
        final int kind;
        final int looked;
        final DaySet days = new DaySet();
        /** By byte of the date: the most days that are left when that byte is read. */
        final int[] mostLeft = new int[DATE_BYTES];
        int date;
        int sum = NONE;
        int dieNumber = NONE;
        Die die = null;
        int ink;
        int nick = NONE;
        int town = NONE;
        int dayCount;

        Mark(int cover, int kind, int looked) {
            this.cover = cover;
            this.kind = kind;
            this.looked = looked;
        }

        void write(int date, int sum) {
            this.date = date;
            this.sum = sum;
        }

        void strike(int dieNumber, Die die, int ink, int nick) {
            this.dieNumber = dieNumber;
            this.die = die;
            this.ink = ink;
            this.nick = nick;
            this.town = die == null ? NONE : die.office.town;
        }

        void findDays() {
            for (int day = 0; day < DAYS; day++) {
                if (fitsDate(day) && fitsDie(day)) {
                    days.add(day);
                }
            }
            dayCount = days.size();
            int[] left = new int[10];
            for (int place = 0; place < DATE_BYTES; place++) {
                mostLeft[place] = mostDaysByFigure(place, left);
            }
        }

        boolean fitsDate(int day) {
            for (int place = 0; place < DATE_BYTES; place++) {
                int sign = byteOf(date, place);
                if (sign != TORN && sign - '0' != figureOf(day, place)) {
                    return false;
                }
            }
            return true;
        }

        boolean fitsDie(int day) {
            return die == null || die.strikesOn(day) && die.hasInk(ink) && die.fitsNick(nick, day);
        }

        int mostDaysByFigure(int place, int[] left) {
            Arrays.fill(left, 0);
            int most = 0;
            for (int day = 0; day < DAYS; day++) {
                int figure = figureOf(day, place);
                if (days.has(day) && within(figure, 0, left.length - 1)) {
                    left[figure]++;
                    most = Math.max(most, left[figure]);
                }
            }
            return most;
        }

        boolean isOn(int cover, int asOf) {
            return this.cover == cover && looked <= asOf;
        }

        boolean isTorn(int place) {
            return byteOf(date, place) == TORN;
        }

        int readBytes() {
            int read = 0;
            for (int place = 0; place < DATE_BYTES; place++) {
                read += isTorn(place) ? 0 : 1;
            }
            return read;
        }
    }

    /** The bodies of the kinds; each leaves its number on the trace when it is asked. */
    private static final class Leaning {
        long trace = 0L;

        int ofKind(int kind, Mark mark) {
            switch (kind) {
                case 1: return ofDated(mark);
                case 2: return ofRate(mark);
                case 3: return ofThrough(mark);
                case 4: return ofStamp(mark);
                case 5: return ofDoubted(mark);
                default: return ofMark(mark);
            }
        }

        int ofMark(Mark mark) {
            trace += 1L;
            return mark.die == null ? 10 : 15;
        }

        int ofDated(Mark mark) {
            trace += 10L;
            return ofMark(mark) + 4 * mark.readBytes();
        }

        int ofRate(Mark mark) {
            trace += 100L;
            return ofMark(mark) + (mark.sum == NONE ? 0 : 7);
        }

        int ofThrough(Mark mark) {
            trace += 1000L;
            int up = ofDated(mark);
            return up + up / 3;
        }

        int ofStamp(Mark mark) {
            trace += 10000L;
            return ofMark(mark) + mark.ink;
        }

        int ofDoubted(Mark mark) {
            trace += 100000L;
            return ofMark(mark) / 2;
        }
    }

    /** All marks, by their numbers, and what is asked of covers side by side. */
    private static final class Covers {
        final Mark[] marks = new Mark[MAX_MARKS];
        int count = 0;

        int add(Mark mark) {
            marks[count] = mark;
            return count++;
        }

        int countOn(int cover, int asOf) {
            int on = 0;
            for (int m = 0; m < count; m++) {
                on += marks[m].isOn(cover, asOf) ? 1 : 0;
            }
            return on;
        }

        boolean areOneMail(int a, int b, int asOf) {
            for (int m = 0; m < count; m++) {
                if (marks[m].die != null && marks[m].isOn(a, asOf) && hasMarkWith(marks[m], b, asOf)) {
                    return true;
                }
            }
            return false;
        }

        boolean hasMarkWith(Mark mark, int cover, int asOf) {
            for (int m = 0; m < count; m++) {
                Mark other = marks[m];
                if (other.isOn(cover, asOf) && other.dieNumber == mark.dieNumber && other.days.meets(mark.days)) {
                    return true;
                }
            }
            return false;
        }

        int heapOf(int cover, int asOf) {
            int heap = 1 << cover;
            int asked = 0;
            for (int round = 0; round < COVERS && asked != heap; round++) {
                int next = lowestOf(heap & ~asked);
                asked |= 1 << next;
                for (int other = 0; other < COVERS; other++) {
                    if ((heap >> other & 1) == 0 && areOneMail(next, other, asOf)) {
                        heap |= 1 << other;
                    }
                }
            }
            return heap;
        }

        static int lowestOf(int set) {
            for (int cover = 0; cover < COVERS; cover++) {
                if ((set >> cover & 1) == 1) {
                    return cover;
                }
            }
            return 0;
        }

        int manyOf(int die, int asOf) {
            int n = 0;
            for (int cover = 0; cover < COVERS; cover++) {
                n += hasDie(cover, die, asOf) ? 1 : 0;
            }
            int s = 0;
            int t = 0;
            for (int w = 0; w < DaySet.WORDS; w++) {
                long byOne = 0L;
                long byTwo = 0L;
                long byThree = 0L;
                for (int cover = 0; cover < COVERS; cover++) {
                    long days = wordOf(cover, die, asOf, w);
                    byThree |= byTwo & days;
                    byTwo |= byOne & days;
                    byOne |= days;
                }
                s += Long.bitCount(byOne & ~byTwo);
                t += Long.bitCount(byTwo & ~byThree);
            }
            return n + (t > 0 ? s * s / (2 * t) : s * (s - 1) / 2);
        }

        boolean hasDie(int cover, int die, int asOf) {
            for (int m = 0; m < count; m++) {
                if (marks[m].dieNumber == die && marks[m].isOn(cover, asOf)) {
                    return true;
                }
            }
            return false;
        }

        long wordOf(int cover, int die, int asOf, int w) {
            long days = 0L;
            for (int m = 0; m < count; m++) {
                if (marks[m].dieNumber == die && marks[m].isOn(cover, asOf)) {
                    days |= marks[m].days.words[w];
                }
            }
            return days;
        }

        int nextLook(int cover, int asOf) {
            int best = NONE;
            int leastLeft = DAYS + 1;
            for (int m = 0; m < count; m++) {
                Mark mark = marks[m];
                for (int place = 0; place < DATE_BYTES && mark.isOn(cover, asOf); place++) {
                    int left = mark.mostLeft[place];
                    if (mark.isTorn(place) && left < mark.dayCount && left < leastLeft) {
                        leastLeft = left;
                        best = DATE_BYTES * m + place;
                    }
                }
            }
            return best;
        }
    }

    /** Sailings and roads; a row of days by town is filled for each question and used again. */
    private static final class Ways {
        final int[] from = new int[MAX_SAILINGS];
        final int[] to = new int[MAX_SAILINGS];
        final int[] leaves = new int[MAX_SAILINGS];
        final int[] comes = new int[MAX_SAILINGS];
        final int[][] roads = new int[TOWNS][TOWNS];
        /** By town, after spreadFrom: the first day one can be there; DAYS if one can't. */
        final int[] soonest = new int[TOWNS];
        /** By town, after drawBackFrom: the last day one may be there and still be in time; below 0 if none. */
        final int[] latest = new int[TOWNS];
        int sailings = 0;

        Ways() {
            for (int town = 0; town < TOWNS; town++) {
                Arrays.fill(roads[town], NONE);
            }
        }

        int addSailing(int fromTown, int toTown, int leavesOn, int comesOn) {
            from[sailings] = fromTown;
            to[sailings] = toTown;
            leaves[sailings] = leavesOn;
            comes[sailings] = comesOn;
            return sailings++;
        }

        int lostSailings() {
            int lost = 0;
            for (int s = 0; s < sailings; s++) {
                lost += comes[s] == NONE ? 1 : 0;
            }
            return lost;
        }

        void spreadFrom(int town, int day) {
            Arrays.fill(soonest, DAYS);
            soonest[town] = day;
            boolean moved = true;
            // no way need see a town twice, so as many rounds as towns are enough
            for (int round = 0; round < TOWNS && moved; round++) {
                moved = spreadBySailings();
                moved = spreadByRoads() || moved;
            }
        }

        boolean spreadBySailings() {
            boolean moved = false;
            for (int s = 0; s < sailings; s++) {
                if (comes[s] != NONE && soonest[from[s]] <= leaves[s] && comes[s] < soonest[to[s]]) {
                    soonest[to[s]] = comes[s];
                    moved = true;
                }
            }
            return moved;
        }

        boolean spreadByRoads() {
            boolean moved = false;
            for (int a = 0; a < TOWNS; a++) {
                for (int b = 0; b < TOWNS; b++) {
                    if (roads[a][b] != NONE && soonest[a] + roads[a][b] < soonest[b]) {
                        soonest[b] = soonest[a] + roads[a][b];
                        moved = true;
                    }
                }
            }
            return moved;
        }

        void drawBackFrom(int town, int day) {
            Arrays.fill(latest, -1);
            latest[town] = day;
            boolean moved = true;
            for (int round = 0; round < TOWNS && moved; round++) {
                moved = drawBackBySailings();
                moved = drawBackByRoads() || moved;
            }
        }

        boolean drawBackBySailings() {
            boolean moved = false;
            for (int s = 0; s < sailings; s++) {
                if (comes[s] != NONE && comes[s] <= latest[to[s]] && leaves[s] > latest[from[s]]) {
                    latest[from[s]] = leaves[s];
                    moved = true;
                }
            }
            return moved;
        }

        boolean drawBackByRoads() {
            boolean moved = false;
            for (int a = 0; a < TOWNS; a++) {
                for (int b = 0; b < TOWNS; b++) {
                    if (roads[a][b] != NONE && latest[b] - roads[a][b] > latest[a]) {
                        latest[a] = latest[b] - roads[a][b];
                        moved = true;
                    }
                }
            }
            return moved;
        }
    }

    /** The marks of one cover that have a die, in their order, and how it can have gone by them. */
    private static final class Going {
        final Ways ways;
        final Mark[] chain = new Mark[MAX_CHAIN];
        /** By place, after firstBarred: the first day of each mark that it went by. */
        final int[] soon = new int[MAX_CHAIN];
        /** By set of marks kept: the first day of the last of them; NONE if the cover can't go by them. */
        final int[] endOfSet = new int[1 << MAX_CHAIN];
        int length = 0;
        int fewestLetBe = 0;
        int leastSet = 0;
        int rivals = 0;

        Going(Ways ways) {
            this.ways = ways;
        }

        /** False if the cover has more marks than may be asked of. */
        boolean gather(Covers covers, int cover, int asOf) {
            length = 0;
            for (int m = 0; m < covers.count; m++) {
                Mark mark = covers.marks[m];
                if (mark.die != null && mark.isOn(cover, asOf)) {
                    if (length >= MAX_CHAIN) {
                        return false;
                    }
                    chain[length++] = mark;
                }
            }
            return true;
        }

        // to be early never bars a later mark, since one may wait: the first day of each is enough
        int firstBarred(int letBe) {
            int ahead = NONE;
            for (int i = 0; i < length; i++) {
                if ((letBe >> i & 1) == 1) {
                    continue;
                }
                int from = 0;
                if (ahead != NONE) {
                    ways.spreadFrom(chain[ahead].town, soon[ahead]);
                    from = ways.soonest[chain[i].town];
                }
                soon[i] = chain[i].days.firstFrom(from);
                if (soon[i] == NONE) {
                    return i;
                }
                ahead = i;
            }
            return NONE;
        }

        /** Of a cover that goes with no mark let be: the last day of its mark at a place. */
        int lastDayOf(int place) {
            int till = DAYS - 1;
            int last = NONE;
            for (int i = length - 1; i >= place; i--) {
                last = chain[i].days.lastTill(till);
                if (last == NONE || i == 0) {
                    return last;
                }
                ways.drawBackFrom(chain[i].town, last);
                till = ways.latest[chain[i - 1].town];
            }
            return last;
        }

        void weighSets() {
            endAllSets();
            int all = (1 << length) - 1;
            fewestLetBe = length + 1;
            for (int letBe = 0; letBe <= all; letBe++) {
                int many = Integer.bitCount(letBe);
                if (endOfSet[all & ~letBe] == NONE || many > fewestLetBe) {
                    continue;
                }
                if (many < fewestLetBe) {
                    fewestLetBe = many;
                    leastSet = letBe;
                    rivals = 0;
                }
                rivals++;
            }
        }

        // a set is made of a smaller one and one mark behind it, so each is reached from those done
        void endAllSets() {
            int sets = 1 << length;
            Arrays.fill(endOfSet, NONE);
            endOfSet[0] = 0;
            for (int kept = 0; kept < sets; kept++) {
                if (endOfSet[kept] == NONE) {
                    continue;
                }
                int last = lastOf(kept);
                if (last != NONE) {
                    ways.spreadFrom(chain[last].town, endOfSet[kept]);
                }
                for (int i = last == NONE ? 0 : last + 1; i < length; i++) {
                    int from = last == NONE ? 0 : ways.soonest[chain[i].town];
                    endOfSet[kept | 1 << i] = chain[i].days.firstFrom(from);
                }
            }
        }

        int lastOf(int kept) {
            for (int i = length - 1; i >= 0; i--) {
                if ((kept >> i & 1) == 1) {
                    return i;
                }
            }
            return NONE;
        }
    }

    private static final class Rule {
        int fromLand;
        int toLand;
        int fromDay;
        int tillDay;
        int sum;
        int grams = 1;
        int otherSum;
        int partA = 1;
        int partB = 1;
        boolean due;

        /** A row is used again for another text: what a rule may leave out must not stay. */
        void forgetChoices() {
            otherSum = 0;
            partA = 1;
            partB = 1;
        }

        boolean holds(int from, int to, int day) {
            return fromLand == from && toLand == to && within(day, fromDay, tillDay);
        }

        int sumFor(int weight) {
            int otherSteps = grams > 0 ? (weight - 1) / grams : 0;
            return sum + otherSum * otherSteps;
        }

        int partOf(int owed) {
            return partB > 0 ? owed * partA / partB : owed;
        }
    }

    private static final class RateBook {
        final Rule[] rules = new Rule[MAX_RULES];
        int count = 0;

        RateBook() {
            for (int r = 0; r < MAX_RULES; r++) {
                rules[r] = new Rule();
            }
        }

        int lastThatHolds(int from, int to, int day) {
            for (int r = count - 1; r >= 0; r--) {
                if (rules[r].holds(from, to, day)) {
                    return r;
                }
            }
            return NONE;
        }
    }

    /** The text that is typed, and its reader: one token is seen ahead, and a fault is where it begins. */
    private static final class RateText {
        static final int BROKEN = 0, END = 1, NUMBER = 2, RATE = 3, PER = 4, PART = 5, DUE = 6;
        static final int MAX_NUMBER = 9999, BLANK = ' ';
        static final String SIGNS = ">,-:+/;";

        final byte[] bytes = new byte[MAX_TEXT];
        int length = 0;
        int at = 0;
        int start = 0;
        /** One of the constants above, or a sign's own byte. */
        int token = END;
        int number = 0;
        int taken = 0;

        void addBytes(long v, int n) {
            for (int b = n - 1; b >= 0 && length < MAX_TEXT; b--) {
                bytes[length++] = (byte) (v >>> 8 * b);
            }
        }

        /** The place of the fault; NONE if the book has been filled. */
        int readInto(RateBook into) {
            at = 0;
            into.count = 0;
            step();
            for (int r = 0; r < MAX_RULES && token != END; r++) {
                Rule rule = into.rules[r];
                rule.forgetChoices();
                if (!readLandsAndDays(rule) || !readSums(rule) || !readPart(rule) || !readEnd(rule)) {
                    return start;
                }
                into.count++;
            }
            return token == END ? NONE : start;
        }

        boolean readLandsAndDays(Rule rule) {
            if (!take(RATE) || !takeNumber(0, LANDS - 1)) {
                return false;
            }
            rule.fromLand = taken;
            if (!take('>') || !takeNumber(0, LANDS - 1)) {
                return false;
            }
            rule.toLand = taken;
            if (!take(',') || !takeNumber(0, DAYS - 1)) {
                return false;
            }
            rule.fromDay = taken;
            if (!take('-') || !takeNumber(rule.fromDay, DAYS - 1)) {
                return false;
            }
            rule.tillDay = taken;
            return true;
        }

        boolean readSums(Rule rule) {
            if (!take(':') || !takeNumber(0, 999)) {
                return false;
            }
            rule.sum = taken;
            if (!take(PER) || !takeNumber(1, 500)) {
                return false;
            }
            rule.grams = taken;
            if (!take('+')) {
                return true;
            }
            if (!takeNumber(0, 999)) {
                return false;
            }
            rule.otherSum = taken;
            return true;
        }

        boolean readPart(Rule rule) {
            if (!take(PART)) {
                return true;
            }
            if (!takeNumber(0, 99)) {
                return false;
            }
            rule.partA = taken;
            if (!take('/') || !takeNumber(Math.max(1, rule.partA), 99)) {
                return false;
            }
            rule.partB = taken;
            return true;
        }

        boolean readEnd(Rule rule) {
            rule.due = take(DUE);
            return take(';');
        }

        boolean take(int wanted) {
            if (token != wanted) {
                return false;
            }
            step();
            return true;
        }

        boolean takeNumber(int low, int high) {
            if (token != NUMBER || !within(number, low, high)) {
                return false;
            }
            taken = number;
            step();
            return true;
        }

        void step() {
            while (at < length && bytes[at] == BLANK) {
                at++;
            }
            start = at;
            if (at >= length) {
                token = END;
            } else if (isDigit(bytes[at])) {
                token = stepNumber();
            } else if (isLetter(bytes[at])) {
                token = stepWord();
            } else {
                token = isSign(bytes[at]) ? bytes[at] : BROKEN;
                at++;
            }
        }

        int stepNumber() {
            number = 0;
            while (at < length && isDigit(bytes[at])) {
                // held just above what may stand, so that a long row of figures can't wrap around
                number = Math.min(10 * number + bytes[at] - '0', MAX_NUMBER + 1);
                at++;
            }
            boolean zeroAhead = bytes[start] == '0' && at - start > 1;
            return zeroAhead || number > MAX_NUMBER ? BROKEN : NUMBER;
        }

        int stepWord() {
            while (at < length && isLetter(bytes[at])) {
                at++;
            }
            if (spells("rate")) {
                return RATE;
            }
            if (spells("per")) {
                return PER;
            }
            if (spells("part")) {
                return PART;
            }
            return spells("due") ? DUE : BROKEN;
        }

        boolean spells(String word) {
            if (at - start != word.length()) {
                return false;
            }
            for (int b = start; b < at; b++) {
                if (bytes[b] != word.charAt(b - start)) {
                    return false;
                }
            }
            return true;
        }

        static boolean isDigit(int sign) {
            return sign >= '0' && sign <= '9';
        }

        static boolean isLetter(int sign) {
            return sign >= 'a' && sign <= 'z';
        }

        static boolean isSign(int sign) {
            for (int s = 0; s < SIGNS.length(); s++) {
                if (SIGNS.charAt(s) == sign) {
                    return true;
                }
            }
            return false;
        }
    }
}
