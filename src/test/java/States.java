/** Objects in states that the tests of edges begin with; each is made anew for each question. */
final class States {
    private static final int NONE = CoverMarks.NONE;

    private States() {
    }

    /** 2 offices, 3 dies, 11 marks (one or more on each cover), 2 sailings (one lost), roads, rates, a text. */
    static CoverMarks some() {
        CoverMarks x = new CoverMarks();
        x.town(1, 1);
        x.town(5, 2);
        x.office(0, 10, 500);
        x.office(1, 0, 999);
        x.die(0, 3, 20, 300, 100);
        x.die(1, 1, 0, 999, NONE);
        x.die(1, 15, 0, 999, 0);
        for (int cover = 0; cover < 8; cover++) {
            x.mark(cover, cover % 6, cover % 3, 0, NONE, Due.date("1?" + cover), cover == 0 ? NONE : 10 * cover, 0);
        }
        x.mark(0, 1, 1, 0, NONE, Due.date("12?"), 40, 0);
        x.mark(0, 2, 2, 3, 1, Due.date("???"), 0, 0);
        x.mark(0, 3, NONE, 2, 0, Due.date("9?9"), 999, 7);
        x.sail(0, 1, 10, 60);
        x.sail(1, 2, 62, 70);
        x.late(1, NONE);
        x.road(0, 1, 4);
        x.road(2, 3, 30);
        Due.type(x, "rate 0>1,0-99:12 per 15+10 part 3/5 due;rate 1>0,5-5:7 per 500;");
        x.rates();
        Due.type(x, "rate 0>1,0-999:1 per 2+3;rate 2>2,0-9:4 per 5 part 1/9;rate 1>1,0-0:0 per 1 due;");
        x.lean(3, 0);
        x.lean(5, 1);
        return x;
    }

    /** Nothing more can be added: 8 offices, 12 dies, 40 marks (11 on cover 0, 10 on cover 1), 20 sailings, 600 bytes, 12 rules. */
    static CoverMarks full() {
        CoverMarks x = new CoverMarks();
        x.town(3, 2);
        for (int office = 0; office < 8; office++) {
            x.office(office % 6, office, 999 - office);
        }
        for (int die = 0; die < 12; die++) {
            x.die(die % 8, 1 + die, die, 999 - 2 * die, die % 2 == 0 ? NONE : 50 * die);
        }
        for (int m = 0; m < 40; m++) {
            int cover = m < 11 ? 0 : m < 21 ? 1 : 2 + m % 6;
            x.mark(cover, m % 6, m % 12, m % 4, m % 3 == 0 ? NONE : m % 2, Due.date(m % 10 + "?" + m / 10), m % 5 == 0 ? NONE : m, m / 20);
        }
        for (int s = 0; s < 20; s++) {
            x.sail(s % 6, (s + 1) % 6, 40 * s, 40 * s + s);
        }
        x.late(19, NONE);
        x.road(0, 5, 9);
        Due.type(x, twelveRules("7"));
        x.rates();
        Due.type(x, blanksTo(twelveRules("8"), 600));
        x.lean(4, 3);
        return x;
    }

    static CoverMarks eightOffices() {
        CoverMarks x = new CoverMarks();
        for (int i = 0; i < 8; i++) {
            x.office(0, 0, 999);
        }
        return x;
    }

    static CoverMarks twelveDies() {
        CoverMarks x = eightOffices();
        for (int i = 0; i < 12; i++) {
            x.die(i % 8, 15, 0, 999, NONE);
        }
        return x;
    }

    /** As many rules as may be, between all lands. */
    static String twelveRules(String sum) {
        StringBuilder text = new StringBuilder();
        for (int r = 0; r < 12; r++) {
            text.append("rate ").append(r % 3).append('>').append(r / 4).append(",0-").append(r).append(':').append(sum).append("per9;");
        }
        return text.toString();
    }

    static String blanksTo(String text, int length) {
        return text + " ".repeat(length - text.length());
    }
}
