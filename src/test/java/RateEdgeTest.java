import java.util.Arrays;

/** Part 3 of the document (the text, the rates, what is owed), sentence by sentence: what it says at its edges. */
public final class RateEdgeTest {
    private static final int NONE = CoverMarks.NONE, BAD = CoverMarks.BAD, FULL = CoverMarks.FULL;
    private static final Due due = new Due();

    public static void main(String[] args) {
        oneToEightBytes();
        sixHundredBytes();
        sixHundredBytesByOnes();
        cleared();
        emptyText();
        textOfSixHundred();
        twelveRules();
        landsInTheText();
        firstDayInTheText();
        secondDayInTheText();
        sumInTheText();
        gramsInTheText();
        otherSumInTheText();
        partInTheText();
        partNoMoreThanWhole();
        zerosAhead();
        numbersAboveAll();
        numbersThatWrapAround();
        choicesInTheirOrder();
        blanksBetween();
        bytesThatBeginNone();
        words();
        endsTooEarly();
        tokensLeftOut();
        firstFaultOfSeveral();
        faultLeavesTextAndRates();
        ratesReplaceRates();
        owedAtSteps();
        owedOnItsDays();
        owedBetweenItsLands();
        owedByTheLastRule();
        owedByEachOfTwelve();
        partsRoundedDown();
        dueOrNot();
        weightsAtTheEnds();
        weightsOfSums();
        due.end();
    }

    private static int read(String text) {
        CoverMarks x = new CoverMarks();
        Due.type(x, text);
        return x.rates();
    }

    private static void good(String text) {
        due.is("rates of '" + text + "'", read(text), 1);
    }

    /** The bar in the text is where the fault is; it is not typed itself. */
    private static void fault(String barred) {
        int place = barred.indexOf('|');
        String text = barred.substring(0, place) + barred.substring(place + 1);
        due.is("fault of '" + barred + "'", read(text), -10 - place);
    }

    private static CoverMarks withRates(String text, int rules) {
        CoverMarks x = new CoverMarks();
        Due.type(x, text);
        due.is("rates of '" + text + "'", x.rates(), rules);
        return x;
    }

    // ---- typing

    /** Promise 19: "The lowest n (1 .. 8) bytes of v, the highest of them first" */
    private static void oneToEightBytes() {
        for (int n = -1; n <= 10; n++) {
            CoverMarks x = new CoverMarks();
            boolean taken = n >= 1 && n <= 8;
            due.is("type of " + n, x.type(-1L, n), taken ? n : BAD);
            due.is("bytes then", x.count(5), taken ? n : 0);
        }
        for (int n : new int[] {Integer.MIN_VALUE, Integer.MAX_VALUE, NONE, 256 + 3}) {
            CoverMarks x = new CoverMarks();
            due.is("type of " + n, x.type(-1L, n), BAD);
            due.is("bytes then", x.count(5), 0);
        }
        // the same rule, typed n bytes at a time, with other bytes above them
        String rule = "rate 0>1,0-999:5 per 9+3 part 1/2 due;  ";
        for (int n = 1; n <= 8; n++) {
            CoverMarks x = new CoverMarks();
            for (int at = 0; at < rule.length(); at += n) {
                String piece = States.blanksTo(rule.substring(at, Math.min(rule.length(), at + n)), n);
                long above = n == 8 ? 0 : 0x7A7A7A7A7A7A7A7AL << 8 * n;
                x.type(above | Due.pack(piece), n);
            }
            due.is("typed by " + n, x.rates(), 1);
            due.is("owed then", x.owed(0, 1, 999, 10, 1), 4);
        }
        // v is any number
        long[] all = {0L, -1L, Long.MIN_VALUE, Long.MAX_VALUE};
        for (long v : all) {
            CoverMarks x = new CoverMarks();
            due.is("type(" + v + ", 8)", x.type(v, 8), 8);
            due.is("none of them begins a token", x.rates(), -10);
        }
    }

    /** "THE RATES are a text (600 bytes at most)", "BAD; FULL" */
    private static void sixHundredBytes() {
        for (int n = 1; n <= 8; n++) {
            CoverMarks x = new CoverMarks();
            for (int at = 0; at < 592; at += 8) {
                due.is("type", x.type(0, 8), at + 8);
            }
            if (n > 1) {
                due.is("type", x.type(0, n - 1), 592 + n - 1);
            }
            int room = 9 - n;
            due.is("one more than the room of " + room, room == 8 ? FULL : x.type(0, room + 1), FULL);
            due.is("nothing came", x.count(5), 600 - room);
            due.is("BAD comes ahead of FULL", x.type(0, 9), BAD);
            due.is("just the room of " + room, x.type(0, room), 600);
            due.is("full", x.type(0, 1), FULL);
            due.is("full", x.type(0, 8), FULL);
            due.is("BAD comes ahead of FULL", x.type(0, 0), BAD);
            due.is("six hundred", x.count(5), 600);
            due.is("clear", x.clear(), 600);
            due.is("room again", x.type(0, 8), 8);
        }
    }

    private static void sixHundredBytesByOnes() {
        // an object is used for 512 calls: not all of the bytes can be typed by ones
        CoverMarks x = new CoverMarks();
        for (int i = 1; i <= 495; i++) {
            due.is("one byte", x.type(' ', 1), i);
        }
        for (int i = 1; i <= 13; i++) {
            due.is("eight bytes", x.type(0x2020202020202020L, 8), 495 + 8 * i);
        }
        due.is("the last byte", x.type(' ', 1), 600);
        due.is("one beyond", x.type(' ', 1), FULL);
        due.is("all blanks", x.rates(), 0);
    }

    /** Promise 20: "THE TEXT is empty: how many bytes it had." */
    private static void cleared() {
        CoverMarks x = new CoverMarks();
        due.is("clear of nothing", x.clear(), 0);
        due.is("clear of nothing again", x.clear(), 0);
        x.type(' ', 1);
        due.is("clear of one", x.clear(), 1);
        due.is("clear of none", x.clear(), 0);
        due.is("bytes", x.count(5), 0);
        Due.type(x, "rate 0>0,0-999:3 per 5;");
        x.rates();
        Due.type(x, "zzz");
        due.is("clear of three", x.clear(), 3);
        due.is("the rates stay", x.owed(0, 0, 999, 1, 0), 3);
        due.is("rules stay", x.count(4), 1);
        // nothing of what was cleared is read
        Due.type(x, "rate 1>");
        x.clear();
        Due.type(x, "rate");
        due.is("ends behind the new text", x.rates(), -14);
        x.clear();
        Due.type(x, "rate 12");
        x.clear();
        Due.type(x, "rate 1");
        due.is("no figure of the old text", x.rates(), -16);
        x.clear();
        Due.type(x, "rates");
        x.clear();
        Due.type(x, "rate");
        due.is("no letter of the old text", x.rates(), -14);
    }

    private static void emptyText() {
        CoverMarks x = new CoverMarks();
        due.is("rates of no text", x.rates(), 0);
        Due.type(x, "rate 0>0,0-999:3 per 5;");
        due.is("one rule", x.rates(), 1);
        due.is("the text is empty then", x.count(5), 0);
        due.is("rates of the empty text", x.rates(), 0);
        due.is("no rule is left", x.count(4), 0);
        due.is("nothing is owed", x.owed(0, 0, 0, 1, 0), NONE);
        due.is("rates of one blank", read(" "), 0);
        due.is("rates of 600 blanks", read(" ".repeat(600)), 0);
    }

    private static void textOfSixHundred() {
        String rule = "rate 0>1,0-9:5 per 9;";
        due.is("a rule at the end of 600", read(" ".repeat(600 - rule.length()) + rule), 1);
        due.is("a rule at the begin of 600", read(States.blanksTo(rule, 600)), 1);
        due.is("a fault at byte 599", read(" ".repeat(599) + "x"), -609);
        due.is("600 bytes that end too early", read(" ".repeat(596) + "rate"), -610);
        due.is("600 bytes that end too early", read(States.blanksTo("rate 0", 600)), -610);
        due.is("600 bytes that end in a number", read(" ".repeat(594) + "rate 1"), -610);
        due.is("599 bytes that end too early", read(" ".repeat(595) + "rate"), -609);
        due.is("a word of 600", read("r".repeat(600)), -10);
        due.is("a number of 590", read("rate " + "1".repeat(590)), -15);
        due.is("zeros alone", read("rate " + "0".repeat(590)), -15);
    }

    // ---- reading

    /** "RULES, 12 at most", "(a 13th RULE ..)" */
    private static void twelveRules() {
        String rule = "rate 0>1,0-9:5 per 9;";
        StringBuilder text = new StringBuilder();
        for (int n = 1; n <= 12; n++) {
            text.append(rule);
            CoverMarks x = withRates(text.toString(), n);
            due.is("count of rules", x.count(4), n);
            due.is("the last of them", x.owed(0, 1, 0, 1, 3), n - 1);
        }
        fault(text + "|" + rule);
        fault(text + "  |" + rule);
        fault(text + "|rate");
        fault(text + "|;");
        fault(text + "|x");
        fault(text + "|00");
        fault(text + "   |rate 9");
        due.is("blanks behind the twelfth", read(text + "    "), 12);
        CoverMarks y = withRates(rule, 1);
        Due.type(y, text + rule);
        due.is("thirteen", y.rates(), -10 - text.length());
        due.is("the one rule stays", y.count(4), 1);
        due.is("the text stays", y.count(5), 13 * rule.length());
    }

    /** "LAND 0 .. 2" */
    private static void landsInTheText() {
        for (int from = 0; from < 3; from++) {
            for (int to = 0; to < 3; to++) {
                CoverMarks x = withRates("rate " + from + ">" + to + ",0-9:5 per 9;", 1);
                due.is("owed", x.owed(from, to, 0, 1, 0), 5);
                due.is("owed elsewhere", x.owed(from, (to + 1) % 3, 0, 1, 0), NONE);
                due.is("owed elsewhere", x.owed((from + 1) % 3, to, 0, 1, 0), NONE);
            }
        }
        fault("rate |3>0,0-9:5 per 9;");
        fault("rate |10>0,0-9:5 per 9;");
        fault("rate 0>|3,0-9:5 per 9;");
        fault("rate 0>|9999,0-9:5 per 9;");
        fault("rate |-1>0,0-9:5 per 9;");
    }

    /** "DAY 0 .. 999" */
    private static void firstDayInTheText() {
        good("rate 0>1,0-999:5 per 9;");
        good("rate 0>1,999-999:5 per 9;");
        fault("rate 0>1,|1000-999:5 per 9;");
        fault("rate 0>1,|1000-1000:5 per 9;");
        fault("rate 0>1,|9999-999:5 per 9;");
        fault("rate 0>1,|-999:5 per 9;");
    }

    /** "(the second not ahead of the first)" */
    private static void secondDayInTheText() {
        int[] days = {0, 1, 500, 998, 999};
        for (int day : days) {
            good("rate 0>1," + day + "-" + day + ":5 per 9;");
            good("rate 0>1," + day + "-999:5 per 9;");
            if (day > 0) {
                fault("rate 0>1," + day + "-|" + (day - 1) + ":5 per 9;");
                fault("rate 0>1," + day + "-|0:5 per 9;");
            }
            fault("rate 0>1," + day + "-|1000:5 per 9;");
        }
    }

    /** "SUM 0 .. 999" */
    private static void sumInTheText() {
        for (int sum : new int[] {0, 1, 998, 999}) {
            CoverMarks x = withRates("rate 0>1,0-9:" + sum + " per 9;", 1);
            due.is("owed", x.owed(0, 1, 0, 2000, 0), sum);
        }
        fault("rate 0>1,0-9:|1000 per 9;");
        fault("rate 0>1,0-9:|9999 per 9;");
        fault("rate 0>1,0-9:|-1 per 9;");
    }

    /** "GRAMS 1 .. 500" */
    private static void gramsInTheText() {
        for (int grams : new int[] {1, 2, 499, 500}) {
            CoverMarks x = withRates("rate 0>1,0-9:5 per " + grams + "+1;", 1);
            due.is("the first step", x.owed(0, 1, 0, grams, 0), 5);
            due.is("the second step", x.owed(0, 1, 0, grams + 1, 0), 6);
        }
        fault("rate 0>1,0-9:5 per |0;");
        fault("rate 0>1,0-9:5 per |501;");
        fault("rate 0>1,0-9:5 per |9999;");
        fault("rate 0>1,0-9:5 per |;");
    }

    /** "then perhaps + SUM (for each other step)" */
    private static void otherSumInTheText() {
        for (int sum : new int[] {0, 1, 998, 999}) {
            CoverMarks x = withRates("rate 0>1,0-9:7 per 500+" + sum + ";", 1);
            due.is("one step", x.owed(0, 1, 0, 500, 0), 7);
            due.is("four steps", x.owed(0, 1, 0, 2000, 0), 7 + 3 * sum);
        }
        fault("rate 0>1,0-9:7 per 500+|1000;");
        fault("rate 0>1,0-9:7 per 500+|;");
        fault("rate 0>1,0-9:7 per 500|-1;");
        fault("rate 0>1,0-9:7 per 500+|+1;");
    }

    /** "A 0 .. 99, B 1 .. 99" */
    private static void partInTheText() {
        String begin = "rate 0>1,0-9:7 per 5 part ";
        good(begin + "0/1;");
        good(begin + "0/99;");
        good(begin + "1/1;");
        good(begin + "99/99;");
        good(begin + "98/99;");
        fault(begin + "|100/100;");
        fault(begin + "|100/99;");
        fault(begin + "0/|100;");
        fault(begin + "0/|0;");
        fault(begin + "1/|0;");
        fault(begin + "|/1;");
        fault(begin + "1|;");
        fault(begin + "1/|;");
        fault(begin + "1|>1;");
        fault(begin + "1/|due;");
    }

    /** "A no more than B": it is B that can't stand there. */
    private static void partNoMoreThanWhole() {
        String begin = "rate 0>1,0-9:7 per 5 part ";
        for (int a : new int[] {1, 2, 50, 98, 99}) {
            good(begin + a + "/" + a + ";");
            fault(begin + a + "/|" + (a - 1) + ";");
            if (a < 99) {
                good(begin + a + "/" + (a + 1) + ";");
            }
        }
    }

    /** "NUMBERS have no 0 ahead of others": 0 itself is one. */
    private static void zerosAhead() {
        good("rate 0>0,0-0:0 per 1+0 part 0/1;");
        String[] barred = {"rate |00>0,0-0:0 per 1;", "rate |01>0,0-0:0 per 1;", "rate 0>|01,0-0:0 per 1;", "rate 0>0,|00-0:0 per 1;",
            "rate 0>0,|05-9:0 per 1;", "rate 0>0,0-|09:0 per 1;", "rate 0>0,0-0:|00 per 1;", "rate 0>0,0-0:|07 per 1;", "rate 0>0,0-0:0 per |01;",
            "rate 0>0,0-0:0 per 1+|00;", "rate 0>0,0-0:0 per 1+|01;", "rate 0>0,0-0:0 per 1 part |00/1;", "rate 0>0,0-0:0 per 1 part |01/1;",
            "rate 0>0,0-0:0 per 1 part 0/|01;", "rate 0>0,0-0:0 per 1 part 0/|00;"};
        for (String text : barred) {
            fault(text);
        }
        // a blank parts two numbers: then the second is where none can stand
        fault("rate 0 |0>0,0-0:0 per 1;");
        fault("rate 0 |1>0,0-0:0 per 1;");
    }

    /** "a NUMBER above 9999 .., that TOKEN's" */
    private static void numbersAboveAll() {
        String[] numbers = {"9999", "10000", "99999", "100000", "12345678901234567890"};
        for (String number : numbers) {
            fault("rate |" + number + ">0,0-0:0 per 1;");
            fault("rate 0>0,|" + number + "-0:0 per 1;");
            fault("rate 0>0,0-|" + number + ":0 per 1;");
            fault("rate 0>0,0-0:|" + number + " per 1;");
            fault("rate 0>0,0-0:0 per |" + number + ";");
            fault("rate 0>0,0-0:0 per 1+|" + number + ";");
            fault("rate 0>0,0-0:0 per 1 part |" + number + "/1;");
            fault("rate 0>0,0-0:0 per 1 part 0/|" + number + ";");
            fault("|" + number);
            fault("rate 0>0,0-0:0 per 1;|" + number);
        }
    }

    /** Numbers that would be good ones if they were held in 8, 16, 32 or 64 bits. */
    private static void numbersThatWrapAround() {
        String[] ones = {"257", "65537", "4294967297", "18446744073709551617", "340282366920938463463374607431768211457"};
        for (String one : ones) {
            fault("rate |" + one + ">0,0-0:0 per 1;");
            fault("rate 0>0,0-0:0 per 1 part 0/|" + one + ";");
        }
        String[] more = {"65537", "4294967297", "18446744073709551617"};
        for (String one : more) {
            fault("rate 0>0,|" + one + "-9:0 per 1;");
            fault("rate 0>0,0-9:|" + one + " per 1;");
            fault("rate 0>0,0-9:0 per |" + one + ";");
        }
    }

    /** "then perhaps +, then perhaps part, then perhaps due, then ;" */
    private static void choicesInTheirOrder() {
        String begin = "rate 0>1,0-9:7 per 5";
        String[] choices = {"+3", " part 1/2", " due"};
        for (int set = 0; set < 8; set++) {
            StringBuilder text = new StringBuilder(begin);
            for (int i = 0; i < 3; i++) {
                text.append((set >> i & 1) == 1 ? choices[i] : "");
            }
            good(text + ";");
            CoverMarks x = withRates(text + ";", 1);
            boolean other = (set & 1) == 1;
            due.is("owed of '" + text + "'", x.owed(0, 1, 0, 6, 0), other ? 10 : 7);
            due.is("part of '" + text + "'", x.owed(0, 1, 0, 6, 1), (other ? 10 : 7) / ((set & 2) == 2 ? 2 : 1));
            due.is("due of '" + text + "'", x.owed(0, 1, 0, 6, 2), set >> 2);
            // none may stand behind itself or behind a later one
            for (int again = 0; again < 3; again++) {
                boolean behind = set >> again != 0;
                if (behind) {
                    String more = choices[again].trim();
                    fault(text + " |" + more + ";");
                }
            }
            fault(text + " |per 5;");
            fault(text + " |rate 0;");
            fault(text + "|");
            fault(text + "  |");
        }
        fault(begin + ";|;");
        fault(begin + ";|due;");
        fault(begin + ";|+3;");
    }

    /** "blanks (32) between TOKENS": any number of them, or none. */
    private static void blanksBetween() {
        String[] tokens = {"rate", "0", ">", "1", ",", "0", "-", "9", ":", "7", "per", "5", "+", "3", "part", "1", "/", "2", "due", ";"};
        for (String blanks : new String[] {"", " ", "  ", "         "}) {
            StringBuilder text = new StringBuilder(blanks);
            for (String token : tokens) {
                text.append(token).append(blanks);
            }
            good(text.toString());
        }
        // none inside a token
        fault("|r ate 0>1,0-9:7 per 5;");
        fault("|rat e0>1,0-9:7 per 5;");
        fault("rate 0>1,0-1 |0:7 per 5;");
        fault("rate 0>1,0-9:7 |p er 5;");
        fault("rate 0>1,0-9:7 per 5 |du e;");
    }

    /** "of a byte that begins none" */
    private static void bytesThatBeginNone() {
        String begin = "rate 0>1,0-9:7 per 5";
        for (int b = 0; b < 256; b++) {
            char sign = (char) b;
            if (sign == ' ' || sign == '|' || sign == '+' || sign == ';' || sign >= '0' && sign <= '9' || sign >= 'a' && sign <= 'z') {
                continue;
            }
            fault(begin + "|" + sign + ";");
            fault(begin + " |" + sign + " ;");
            fault("|" + sign);
            fault(begin + ";|" + sign);
        }
        due.is("the bar itself", read(begin + "|;"), -10 - begin.length());
        due.is("the bar itself", read("|"), -10);
        // 96 and 123 are beside the letters, 47 and 58 beside the figures: two of these are signs of their own
        fault("rate 0>1,0-9|/7 per 5;");
        fault("rate 0>1|:0-9");
        fault("|`rate 0");
        fault("|{rate 0");
        fault("|Rate 0>1,0-9:7 per 5;");
        fault("|RATE 0>1,0-9:7 per 5;");
        fault("rate|\t0>1,0-9:7 per 5;");
        fault(begin + ";|\n");
        fault(begin + ";|\r\n");
        fault(begin + ";|.");
    }

    /** "a word that is none of these" */
    private static void words() {
        String[] none = {"r", "ra", "rat", "rates", "ratee", "rrate", "arate", "rateper", "a", "z", "pe", "pers", "par", "parts", "du", "dues", "dude", "etar", "ratea", "ratez", "perz", "partz", "duez", "az", "zz"};
        for (String word : none) {
            fault("|" + word + " 0>1,0-9:7 per 5;");
            fault("rate 0>1,0-9:7 |" + word + " 5;");
            fault("rate 0>1,0-9:7 per 5 |" + word + ";");
        }
        // one of these, but where it can't stand
        String[] these = {"rate", "per", "part", "due"};
        for (String word : these) {
            if (!word.equals("rate")) {
                fault("|" + word + " 0>1");
            }
            if (!word.equals("per")) {
                fault("rate 0>1,0-9:7 |" + word + " 5;");
            }
            fault("rate |" + word);
            fault("rate 0|" + word);
            fault("rate 0>|" + word);
            fault("rate 0>1,0-9:7 per |" + word);
        }
    }

    /** "the text's length, if it ends too early" */
    private static void endsTooEarly() {
        String[] tokens = {"rate", "0", ">", "1", ",", "0", "-", "9", ":", "7", "per", "5", "+", "3", "part", "1", "/", "2", "due"};
        StringBuilder text = new StringBuilder();
        for (String token : tokens) {
            text.append(token);
            fault(text + "|");
            fault(text + " |");
            fault(text + "       |");
            fault("rate 1>1,0-0:0 per 1;" + text + "|");
            text.append(' ');
        }
        // a word that ends too early is a word that is none
        fault("|rat");
        fault("rate 0>1,0-9:7 |pe");
        fault("rate 0>1,0-9:7 per 5 |par");
        fault("rate 0>1,0-9:7 per 5 |du");
    }

    /** Each token behind each begin of a rule: where it can't stand the fault is its. */
    private static void tokensLeftOut() {
        String[] tokens = {"rate", "0", ">", "1", ",", "2", "-", "9", ":", "7", "per", "5", "+", "3", "part", "1", "/", "2", "due", ";"};
        // behind the first sum's grams, the other sum, the part: these may be left out
        boolean[][] leftOut = new boolean[20][20];
        leftOut[12][14] = leftOut[12][18] = leftOut[12][19] = leftOut[14][18] = leftOut[14][19] = leftOut[18][19] = true;
        StringBuilder begin = new StringBuilder();
        for (int i = 0; i < tokens.length; i++) {
            for (int j = 0; j < tokens.length; j++) {
                boolean bothNumbers = Character.isDigit(tokens[i].charAt(0)) && Character.isDigit(tokens[j].charAt(0));
                if (!tokens[i].equals(tokens[j]) && !bothNumbers && !leftOut[i][j]) {
                    fault(begin + "|" + tokens[j]);
                    fault(begin + "|" + tokens[j] + " " + String.join(" ", tokens));
                    fault(begin + "|" + String.join(" ", Arrays.copyOfRange(tokens, j, tokens.length)));
                }
            }
            begin.append(tokens[i]).append(' ');
        }
    }

    /** "the first TOKEN that can't stand there" */
    private static void firstFaultOfSeveral() {
        fault("rate |3>3,1000-0:1000 per 0;");
        fault("rate 0>|3,1000-0:1000 per 0;");
        fault("rate 0>1,|1000-0:1000 per 0;");
        fault("rate 0>1,9-|0:1000 per 0;");
        fault("rate 0>1,0-9:|1000 per 0;");
        fault("rate 0>1,0-9:0 per |0+1000;");
        fault("rate 0>1,0-9:0 per 1 +|1000 part 9/3;");
        fault("rate 0>1,0-9:0 per 1 part 9/|3 dew;");
        fault("rate 0>1,0-9:0 per 1 |dew; #");
        fault("rate 0 |1 #");
        fault("rate |01 #");
        fault("rate |> 00 #");
        // a fault of a token's form further on does not come ahead of one of its place
        fault("rate 0 |0 # 00 99999 xyz");
        fault("rate 0>1,0-9:0 per 1; |0 #");
    }

    /** Promise 21: "-10 less FAULT: nothing changes." */
    private static void faultLeavesTextAndRates() {
        CoverMarks x = withRates("rate 0>1,0-9:7 per 5+2 part 1/2 due;", 1);
        due.is("rates of the empty text", read(""), 0);
        Due.type(x, "rate 0>1,0-9:8 per 5;#");
        due.is("a fault behind a whole rule", x.rates(), -31);
        due.is("again", x.rates(), -31);
        due.is("the text stays", x.count(5), 22);
        due.is("one rule stays", x.count(4), 1);
        due.is("owed as before", x.owed(0, 1, 0, 6, 0), 9);
        due.is("part as before", x.owed(0, 1, 0, 6, 1), 4);
        due.is("due as before", x.owed(0, 1, 0, 6, 2), 1);
        // what is typed now comes behind the text that stayed
        due.is("typed behind it", x.type(';', 1), 23);
        due.is("the same fault", x.rates(), -31);
        due.is("clear", x.clear(), 23);
        due.is("then the text is empty", x.rates(), 0);
        due.is("and so are the rates", x.owed(0, 1, 0, 6, 0), NONE);
        // a text that ends too early may go on
        CoverMarks y = new CoverMarks();
        Due.type(y, "rate 0>1,0-9:8 per ");
        due.is("ends too early", y.rates(), -29);
        Due.type(y, "5;");
        due.is("goes on", y.rates(), 1);
    }

    /** "THE TEXT becomes THE RATES, and is empty then" */
    private static void ratesReplaceRates() {
        CoverMarks x = withRates("rate 0>1,0-9:7 per 5+2 part 2/3 due;rate 1>1,0-9:7 per 5;", 2);
        for (int i = 1; i <= 3; i++) {
            Due.type(x, "rate 0>1,0-8:" + i + " per 5;");
            due.is("one rule", x.rates(), 1);
            due.is("the text is empty", x.count(5), 0);
            due.is("rules", x.count(4), 1);
            due.is("no other step", x.owed(0, 1, 8, 2000, 0), i);
            due.is("no part", x.owed(0, 1, 8, 2000, 1), i);
            due.is("not due", x.owed(0, 1, 8, 2000, 2), 0);
            due.is("its place", x.owed(0, 1, 8, 2000, 3), 0);
            due.is("not the old days", x.owed(0, 1, 9, 1, 0), NONE);
            due.is("not the old lands", x.owed(1, 1, 8, 1, 0), NONE);
        }
    }

    // ---- what is owed

    /** "SUM, and the other SUM (0 without one) for each step begun behind the first, each of GRAMS" */
    private static void owedAtSteps() {
        int[] steps = {1, 2, 7, 499, 500};
        for (int grams : steps) {
            CoverMarks x = withRates("rate 0>1,0-0:20 per " + grams + "+3;rate 1>0,0-0:20 per " + grams + ";", 2);
            int last = (2000 - 1) / grams;
            due.is("one gram", x.owed(0, 1, 0, 1, 0), 20);
            due.is("the whole first step", x.owed(0, 1, 0, grams, 0), 20);
            due.is("the second begun", x.owed(0, 1, 0, grams + 1, 0), 23);
            due.is("the second whole", x.owed(0, 1, 0, 2 * grams, 0), 23);
            due.is("the third begun", x.owed(0, 1, 0, 2 * grams + 1, 0), 26);
            due.is("two thousand", x.owed(0, 1, 0, 2000, 0), 20 + 3 * last);
            due.is("two thousand without another sum", x.owed(1, 0, 0, 2000, 0), 20);
            due.is("no gram", x.owed(0, 1, 0, 0, 0), BAD);
            due.is("a gram too many", x.owed(0, 1, 0, 2001, 0), BAD);
        }
        CoverMarks y = withRates("rate 0>1,0-0:999 per 1+999;rate 1>0,0-0:0 per 1+0;", 2);
        due.is("the most that can be owed", y.owed(0, 1, 0, 2000, 0), 1998000);
        due.is("the least that can be owed", y.owed(1, 0, 0, 2000, 0), 0);
    }

    /** "that holds that DAY" */
    private static void owedOnItsDays() {
        int[][] stretches = {{0, 0}, {0, 999}, {999, 999}, {100, 200}};
        for (int[] s : stretches) {
            CoverMarks x = withRates("rate 0>1," + s[0] + "-" + s[1] + ":5 per 9;", 1);
            for (int what = 0; what < 4; what++) {
                int want = what < 2 ? 5 : 0;
                due.is("the first day", x.owed(0, 1, s[0], 1, what), want);
                due.is("the last day", x.owed(0, 1, s[1], 1, what), want);
                due.is("the day ahead", x.owed(0, 1, s[0] - 1, 1, what), s[0] == 0 ? BAD : NONE);
                due.is("the day behind", x.owed(0, 1, s[1] + 1, 1, what), s[1] == 999 ? BAD : NONE);
            }
        }
    }

    /** "from a LAND to a LAND" */
    private static void owedBetweenItsLands() {
        StringBuilder text = new StringBuilder();
        for (int from = 0; from < 3; from++) {
            for (int to = 0; to < 3; to++) {
                text.append("rate ").append(from).append('>').append(to).append(",0-9:").append(10 * from + to).append(" per 1;");
            }
        }
        CoverMarks x = withRates(text.toString(), 9);
        for (int from = 0; from < 3; from++) {
            for (int to = 0; to < 3; to++) {
                due.is("owed", x.owed(from, to, 0, 1, 0), 10 * from + to);
                due.is("its place", x.owed(from, to, 0, 1, 3), 3 * from + to);
            }
        }
        // the lands of towns do not come into it
        x.town(0, 2);
        x.town(1, 2);
        due.is("owed", x.owed(0, 1, 0, 1, 0), 1);
    }

    /** "by the last RULE in the text of these LANDS that holds that DAY" */
    private static void owedByTheLastRule() {
        CoverMarks x = withRates("rate 0>1,0-999:1 per 1;rate 0>1,100-200:2 per 1;rate 0>1,150-160:3 per 1;rate 1>0,0-999:4 per 1;", 4);
        int[][] want = {{0, 1, 0}, {99, 1, 0}, {100, 2, 1}, {149, 2, 1}, {150, 3, 2}, {160, 3, 2}, {161, 2, 1}, {200, 2, 1}, {201, 1, 0}, {999, 1, 0}};
        for (int[] w : want) {
            due.is("owed on " + w[0], x.owed(0, 1, w[0], 1, 0), w[1]);
            due.is("rule of " + w[0], x.owed(0, 1, w[0], 1, 3), w[2]);
            due.is("weights on " + w[0], x.weights(0, 1, w[0], w[1], 0), 2000);
        }
        // an earlier rule comes ahead of none, even if it holds fewer days
        CoverMarks y = withRates("rate 0>1,150-160:3 per 1;rate 0>1,0-999:1 per 1;", 2);
        due.is("the last one", y.owed(0, 1, 155, 1, 0), 1);
    }

    private static void owedByEachOfTwelve() {
        StringBuilder text = new StringBuilder();
        for (int r = 0; r < 12; r++) {
            text.append("rate 2>2,").append(r).append("-20:").append(r).append(" per 1;");
        }
        CoverMarks x = withRates(text.toString(), 12);
        for (int day = 0; day <= 21; day++) {
            due.is("rule of day " + day, x.owed(2, 2, day, 1, 3), day > 20 ? NONE : Math.min(day, 11));
            due.is("owed on day " + day, x.owed(2, 2, day, 1, 0), day > 20 ? NONE : Math.min(day, 11));
        }
    }

    /** "PART: OWED times A by B, rounded down (all without "part")." */
    private static void partsRoundedDown() {
        int[][] parts = {{0, 1}, {0, 99}, {1, 1}, {1, 2}, {1, 3}, {2, 3}, {1, 99}, {98, 99}, {99, 99}};
        int[] sums = {0, 1, 2, 3, 98, 99, 100, 999};
        for (int[] p : parts) {
            for (int sum : sums) {
                CoverMarks x = withRates("rate 0>1,0-0:" + sum + " per 1+999 part " + p[0] + "/" + p[1] + ";", 1);
                due.is(sum + " times " + p[0] + " by " + p[1], x.owed(0, 1, 0, 1, 1), sum * p[0] / p[1]);
                int most = sum + 1999 * 999;
                due.is(most + " times " + p[0] + " by " + p[1], x.owed(0, 1, 0, 2000, 1), (long) most * p[0] / p[1]);
                due.is("owed itself", x.owed(0, 1, 0, 2000, 0), most);
            }
        }
        due.is("all without a part", withRates("rate 0>1,0-0:7 per 1;", 1).owed(0, 1, 0, 1, 1), 7);
    }

    /** "DUE: whether it says so." */
    private static void dueOrNot() {
        CoverMarks x = withRates("rate 0>0,0-9:1 per 1;rate 0>0,1-9:1 per 1 due;rate 0>0,2-9:1 per 1;", 3);
        int[] want = {0, 1, 0};
        for (int day = 0; day < 3; day++) {
            due.is("due on " + day, x.owed(0, 0, day, 1, 2), want[day]);
        }
        due.is("due without a rule", x.owed(0, 0, 10, 1, 2), NONE);
    }

    /** "WEIGHTS: how many of 1 .. 2000 are OWED just a sum; the least of them; the greatest." */
    private static void weightsAtTheEnds() {
        CoverMarks x = withRates("rate 0>0,0-9:5 per 500+3;rate 0>1,0-9:5 per 1+3;rate 0>2,0-9:5 per 300+3;rate 1>0,0-9:5 per 300;rate 1>1,0-9:0 per 1;", 5);
        int[][] want = {{0, 0, 5, 500, 1, 500}, {0, 0, 8, 500, 501, 1000}, {0, 0, 14, 500, 1501, 2000}, {0, 0, 17, 0, NONE, NONE},
            {0, 0, 4, 0, NONE, NONE}, {0, 0, 6, 0, NONE, NONE}, {0, 1, 5, 1, 1, 1}, {0, 1, 8, 1, 2, 2}, {0, 1, 6002, 1, 2000, 2000}, {0, 1, 6005, 0, NONE, NONE},
            {0, 2, 23, 200, 1801, 2000}, {1, 0, 5, 2000, 1, 2000}, {1, 0, 0, 0, NONE, NONE}, {1, 1, 0, 2000, 1, 2000}, {1, 1, 1, 0, NONE, NONE},
            {2, 2, 0, 0, NONE, NONE}, {2, 2, 5, 0, NONE, NONE}};
        for (int[] w : want) {
            for (int what = 0; what < 3; what++) {
                due.is("weights " + w[0] + ">" + w[1] + " of " + w[2] + " " + what, x.weights(w[0], w[1], 9, w[2], what), w[3 + what]);
            }
        }
        for (int what = 0; what < 3; what++) {
            due.is("no rule on day 10", x.weights(0, 0, 10, 5, what), what == 0 ? 0 : NONE);
        }
    }

    /** "BAD: sums 0 .. 2000000." */
    private static void weightsOfSums() {
        CoverMarks x = withRates("rate 0>0,0-999:999 per 1+999;", 1);
        int[][] want = {{-1, BAD, BAD, BAD}, {0, 0, NONE, NONE}, {999, 1, 1, 1}, {1998000, 1, 2000, 2000}, {1998999, 0, NONE, NONE}, {1999999, 0, NONE, NONE},
            {2000000, 0, NONE, NONE}, {2000001, BAD, BAD, BAD}, {Integer.MAX_VALUE, BAD, BAD, BAD}, {Integer.MIN_VALUE, BAD, BAD, BAD}, {NONE, BAD, BAD, BAD}};
        for (int[] w : want) {
            for (int what = 0; what < 3; what++) {
                due.is("weights of " + w[0] + " " + what, x.weights(0, 0, 999, w[0], what), w[1 + what]);
            }
        }
        due.is("no such question", x.weights(0, 0, 999, 999, 3), BAD);
        due.is("no such question", x.weights(0, 0, 999, 999, -1), BAD);
        // where there is no rule a sum that is not as told is BAD still
        due.is("no rule, no sum", x.weights(1, 1, 0, 2000001, 0), BAD);
        due.is("no rule", x.weights(1, 1, 0, 2000000, 0), 0);
    }
}
