/** Promises 19 to 23: the text, the rates, what is owed, weights. */
public final class RateTest {
    private static final int NONE = CoverMarks.NONE, BAD = CoverMarks.BAD, FULL = CoverMarks.FULL;
    private static final String RULE = "rate 0>1,0-9:5 per 9";
    private static final Due due = new Due();

    public static void main(String[] args) {
        typing();
        goodTexts();
        faults();
        everyByte();
        tokensLeftOut();
        ruleCounts();
        faultsChangeNothing();
        owedBySteps();
        lastRuleHolds();
        parts();
        weights();
        wrongNumbers();
        due.end();
    }

    private static int read(String text) {
        CoverMarks x = new CoverMarks();
        Due.type(x, text);
        return x.rates();
    }

    private static void typing() {
        CoverMarks x = new CoverMarks();
        due.is("type n 0", x.type(65, 0), BAD);
        due.is("type n 9", x.type(65, 9), BAD);
        due.is("type n -1", x.type(65, -1), BAD);
        due.is("type", x.type(-1L, 3), 3);
        due.is("clear", x.clear(), 3);
        due.is("clear again", x.clear(), 0);
        // what stands above the lowest n bytes does not count
        x.type(Due.pack("xrate"), 4);
        x.type(Due.pack("zzzz0>1,"), 4);
        x.type(Due.pack("0-9:5per"), 8);
        x.type(Due.pack(";;9;"), 2);
        due.is("rates of the lowest bytes", x.rates(), 1);
        due.is("the text is empty then", x.count(5), 0);
        for (int i = 1; i <= 74; i++) {
            due.is("type 8", x.type(32, 8), 8 * i);
        }
        due.is("type 5", x.type(32, 5), 597);
        due.is("type 4 full", x.type(32, 4), FULL);
        due.is("type 9 bad", x.type(32, 9), BAD);
        due.is("nothing changed", x.count(5), 597);
        due.is("type 3", x.type(32, 3), 600);
        due.is("type 1 full", x.type(32, 1), FULL);
        due.is("zero bytes are no blanks", x.rates(), -10);
        due.is("clear", x.clear(), 600);
    }

    private static void goodTexts() {
        String[] good = {RULE + ";", RULE + "+0;", RULE + "+999;", RULE + "part0/1;", RULE + " part 99/99;", RULE + " due;",
            RULE + "+1part1/2due;", "   rate0 > 1 , 0 - 9 : 5per9 + 10part 3 / 5due ;   ", "rate 2>2,999-999:999 per 500;",
            "rate 0>0,0-0:0 per 1;", RULE + "+7 due;", RULE + " part 7/8;"};
        for (String text : good) {
            due.is("rates of '" + text + "'", read(text), 1);
        }
        due.is("rates of nothing", read(""), 0);
        due.is("rates of blanks", read("    "), 0);
        due.is("rates of two", read(RULE + ";" + RULE + " due;"), 2);
    }

    private static void fault(String before, String after) {
        due.is("fault in '" + before + "|" + after + "'", read(before + after), -10 - before.length());
    }

    private static void faults() {
        String[][] texts = {{"", "rates"}, {"", "rat"}, {"", "rat e"}, {"", "ratez"}, {"", "aa"}, {"", ";"}, {"", "per"}, {"", "0"}, {"", "Rate"}, {"", "\t"}, {"  ", "#"},
            {"", "\u00e9rate"}, {"rate ", "3>"}, {"rate ", "00>1"}, {"rate ", ">1"}, {"rate ", "10000>"}, {"rate ", "99999999999999999999>"},
            {"rate ", "4294967296>1"}, {"rate 0", ",1"}, {"rate ", "01"}, {"rate 0 ", "1"}, {"rate 0>", "3,"}, {"rate 0>", "01,"},
            {"rate 0>1", ">"}, {"rate 0>1,", "1000-"}, {"rate 0>1,", "-"}, {"rate 0>1,999", ":"}, {"rate 0>1,9-", "8:"},
            {"rate 0>1,9-", "1000:"}, {"rate 0>1,9-", "09:"}, {"rate 0>1,0-9", "-"}, {"rate 0>1,0-9:", "1000 per"}, {"rate 0>1,0-9:", "per"},
            {"rate 0>1,0-9:5", ";"}, {"rate 0>1,0-9:5 ", "due"}, {"rate 0>1,0-9:5 per ", "0;"}, {"rate 0>1,0-9:5 per ", "501;"},
            {"rate 0>1,0-9:5 ", "pern9;"}, {RULE + "+", "1000;"}, {RULE + "+", "due;"}, {RULE + "+1", "+1;"}, {RULE + " part ", "100/100;"},
            {RULE + " part 4/", "3;"}, {RULE + " part 0/", "0;"}, {RULE + " part 4/", "100;"}, {RULE + " part 4", ";"}, {RULE + " part 4/", ";"},
            {RULE + " part 1/2 ", "part 1/2;"}, {RULE + " part 1/2", "+3;"}, {RULE + " due ", "due;"}, {RULE + " due ", "part 1/2;"},
            {RULE + " due", "+3;"}, {RULE + " ", "duedue;"}, {RULE + " ", "rate"}, {RULE + ";", ";"}, {RULE + ";  ", "x"}, {RULE + ";", "due;"},
            {RULE + ";rate ", "7"}, {RULE, "."}, {RULE + "+10 part 3/5 due", "\u0000"}};
        for (String[] text : texts) {
            fault(text[0], text[1]);
        }
        String whole = "rate 0>1,0-9:5 per 9 + 3 part 1/2 due;";
        int[] ends = {4, 5, 6, 7, 8, 9, 10, 11, 12, 13, 14, 15, 18, 19, 20, 21, 22, 23, 24, 25, 29, 30, 31, 32, 33, 34, 37};
        for (int end : ends) {
            fault(whole.substring(0, end), "");
        }
        fault(RULE + "   ", "");
        fault(RULE + ";rate", "");
    }

    private static void everyByte() {
        for (int b = 0; b < 256; b++) {
            String sign = String.valueOf((char) b);
            due.is("byte " + b + " alone", read(sign), b == 32 ? 0 : -10);
            due.is("byte " + b + " behind a rule", read(RULE + ";" + sign), b == 32 ? 1 : -10 - RULE.length() - 1);
            due.is("byte " + b + " in a rule", read(RULE + " " + sign + ";"), b == 32 ? 1 : -10 - RULE.length() - 1 - (b == '+' || b == ';' ? 1 : 0));
        }
    }

    /** All beginnings of a rule with all ends of it: what stands between is left out or comes twice. */
    private static void tokensLeftOut() {
        String[] tokens = "rate 0 > 1 , 2 - 9 : 5 per 7 + 3 part 1 / 2 due ;".split(" ");
        for (int first = 0; first <= tokens.length; first++) {
            for (int second = 0; second <= tokens.length; second++) {
                StringBuilder text = new StringBuilder();
                for (int i = 0; i < first; i++) {
                    text.append(tokens[i]).append(' ');
                }
                for (int i = second; i < tokens.length; i++) {
                    text.append(tokens[i]).append(' ');
                }
                PlainCoverMarks plain = new PlainCoverMarks();
                for (int i = 0; i < text.length(); i++) {
                    plain.type(text.charAt(i), 1);
                }
                due.is("rates of '" + text + "'", read(text.toString()), plain.rates());
            }
        }
    }

    private static void ruleCounts() {
        String twelve = "";
        for (int i = 0; i < 12; i++) {
            twelve += RULE + ";";
        }
        due.is("twelve rules", read(twelve), 12);
        fault(twelve + " ", "rate 0>1");
        fault(twelve, ";");
    }

    private static void faultsChangeNothing() {
        CoverMarks x = new CoverMarks();
        Due.type(x, "rate 0>1,0-9:5 per 9+2 part 1/2 due;rate 1>2,0-9:6 per 9;");
        due.is("two rules", x.rates(), 2);
        Due.type(x, "rate 0>1,0-9:77 per 9;rate 0>1,0-9:78 per 9;rate 0>1,0-9:79 per 9;rate");
        due.is("a fault", x.rates(), -80);
        due.is("the text stays", x.count(5), 70);
        due.is("the rules stay", x.count(4), 2);
        due.is("and what is owed", x.owed(0, 1, 5, 10, 0), 7);
        x.clear();
        Due.type(x, RULE + ";");
        due.is("one rule", x.rates(), 1);
        due.is("nothing of the old one stays", x.owed(0, 1, 5, 10, 0), 5);
        due.is("nothing of the old one stays", x.owed(0, 1, 5, 10, 1), 5);
        due.is("nothing of the old one stays", x.owed(0, 1, 5, 10, 2), 0);
        Due.type(x, RULE + ";");
        due.is("one rule", x.rates(), 1);
        due.is("nothing of the first one stays", x.owed(0, 1, 5, 10, 0), 5);
        due.is("nothing of the first one stays", x.owed(0, 1, 5, 10, 1), 5);
        due.is("nothing of the first one stays", x.owed(0, 1, 5, 10, 2), 0);
        due.is("nothing of the first one stays", x.owed(1, 2, 5, 10, 0), NONE);
        due.is("no rules", x.rates(), 0);
        due.is("none owed", x.owed(0, 1, 5, 10, 0), NONE);
        due.is("count of rules", x.count(4), 0);
    }

    private static void owedBySteps() {
        CoverMarks x = new CoverMarks();
        Due.type(x, "rate 0>1,10-20:12 per 15+10;rate 1>0,0-999:999 per 1+999;rate 2>2,0-999:3 per 500+1;");
        due.is("rates", x.rates(), 3);
        int[][] want = {{1, 12}, {15, 12}, {16, 22}, {30, 22}, {31, 32}, {2000, 1342}};
        for (int[] w : want) {
            due.is("owed for " + w[0], x.owed(0, 1, 10, w[0], 0), w[1]);
        }
        due.is("ahead of its days", x.owed(0, 1, 9, 1, 0), NONE);
        due.is("on its last day", x.owed(0, 1, 20, 1, 0), 12);
        due.is("behind its days", x.owed(0, 1, 21, 1, 0), NONE);
        due.is("the greatest", x.owed(1, 0, 0, 2000, 0), 1998000);
        due.is("the greatest, its part", x.owed(1, 0, 0, 2000, 1), 1998000);
        due.is("wide steps", x.owed(2, 2, 0, 500, 0), 3);
        due.is("wide steps", x.owed(2, 2, 0, 501, 0), 4);
        due.is("wide steps", x.owed(2, 2, 0, 2000, 0), 6);
        due.is("no such lands", x.owed(0, 2, 10, 1, 3), NONE);
    }

    private static void lastRuleHolds() {
        CoverMarks x = new CoverMarks();
        Due.type(x, "rate 0>1,0-99:1 per 1;rate 0>1,50-60:2 per 1 due;rate 1>0,0-99:3 per 1;rate 0>1,60-70:4 per 1;");
        due.is("rates", x.rates(), 4);
        int[][] want = {{49, 1, 0, 0}, {50, 2, 1, 1}, {59, 2, 1, 1}, {60, 4, 0, 3}, {70, 4, 0, 3}, {71, 1, 0, 0}, {99, 1, 0, 0}, {100, NONE, NONE, NONE}};
        for (int[] w : want) {
            due.is("owed on " + w[0], x.owed(0, 1, w[0], 1, 0), w[1]);
            due.is("due on " + w[0], x.owed(0, 1, w[0], 1, 2), w[2]);
            due.is("rule of " + w[0], x.owed(0, 1, w[0], 1, 3), w[3]);
        }
    }

    private static void parts() {
        CoverMarks x = new CoverMarks();
        Due.type(x, "rate 0>0,0-9:10 per 1+1 part 1/3;rate 0>1,0-9:10 per 1 part 0/1;rate 0>2,0-9:999 per 1+999 part 98/99;"
            + "rate 1>1,0-9:7 per 1 part 99/99;rate 1>2,0-9:7 per 1;");
        due.is("rates", x.rates(), 5);
        due.is("a third", x.owed(0, 0, 0, 1, 1), 3);
        due.is("a third", x.owed(0, 0, 0, 2, 1), 3);
        due.is("a third", x.owed(0, 0, 0, 3, 1), 4);
        due.is("none of it", x.owed(0, 1, 0, 1, 1), 0);
        due.is("of the greatest", x.owed(0, 2, 0, 2000, 1), 1977818);
        due.is("all of it", x.owed(1, 1, 0, 1, 1), 7);
        due.is("all without part", x.owed(1, 2, 0, 1, 1), 7);
    }

    private static void weights() {
        CoverMarks x = new CoverMarks();
        Due.type(x, "rate 0>1,0-9:12 per 15+10;rate 0>2,0-9:7 per 20;rate 1>0,0-9:999 per 1+999;rate 1>1,0-9:5 per 300+3;rate 1>2,0-9:0 per 9+0;");
        due.is("rates", x.rates(), 5);
        int[][] want = {{0, 1, 12, 15, 1, 15}, {0, 1, 22, 15, 16, 30}, {0, 1, 13, 0, NONE, NONE}, {0, 1, 1342, 5, 1996, 2000}, {0, 1, 1352, 0, NONE, NONE},
            {0, 2, 7, 2000, 1, 2000}, {0, 2, 0, 0, NONE, NONE}, {1, 0, 1998000, 1, 2000, 2000}, {1, 0, 2000000, 0, NONE, NONE}, {1, 0, 999, 1, 1, 1},
            {1, 1, 23, 200, 1801, 2000}, {1, 2, 0, 2000, 1, 2000}, {2, 2, 0, 0, NONE, NONE}};
        for (int[] w : want) {
            for (int what = 0; what < 3; what++) {
                due.is("weights " + w[0] + ">" + w[1] + " " + w[2] + " " + what, x.weights(w[0], w[1], 9, w[2], what), w[3 + what]);
            }
        }
        due.is("no rule that day", x.weights(0, 1, 10, 12, 0), 0);
        due.is("no rule that day", x.weights(0, 1, 10, 12, 1), NONE);
        due.is("no rule that day", x.weights(0, 1, 10, 12, 2), NONE);
    }

    private static void wrongNumbers() {
        CoverMarks x = new CoverMarks();
        Due.type(x, "rate 0>0,0-999:12 per 15+10;");
        x.rates();
        int[][] bad = {{-1, 0, 0, 1, 0}, {3, 0, 0, 1, 0}, {0, 3, 0, 1, 0}, {0, -1, 0, 1, 0}, {0, 0, -1, 1, 0}, {0, 0, 1000, 1, 0},
            {0, 0, 0, 0, 0}, {0, 0, 0, 2001, 0}, {0, 0, 0, 1, -1}, {0, 0, 0, 1, 4}};
        for (int[] b : bad) {
            due.is("owed bad", x.owed(b[0], b[1], b[2], b[3], b[4]), BAD);
        }
        int[][] wrong = {{-1, 0, 0, 12, 0}, {3, 0, 0, 12, 0}, {0, 3, 0, 12, 0}, {0, -1, 0, 12, 0}, {0, 0, -1, 12, 0}, {0, 0, 1000, 12, 0},
            {0, 0, 0, -1, 0}, {0, 0, 0, 2000001, 0}, {0, 0, 0, 12, -1}, {0, 0, 0, 12, 3}};
        for (int[] b : wrong) {
            due.is("weights bad", x.weights(b[0], b[1], b[2], b[3], b[4]), BAD);
        }
        due.is("owed on day 999", x.owed(0, 0, 999, 2000, 3), 0);
    }
}
