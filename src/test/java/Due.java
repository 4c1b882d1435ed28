/** Counts the calls whose answer is not the one that is due, and prints each. */
final class Due {
    private int wrong = 0;
    private int asked = 0;

    void is(String call, long got, long want) {
        asked++;
        if (got != want) {
            wrong++;
            System.out.println(call + " answered " + got + ", due is " + want);
        }
    }

    int asked() {
        return asked;
    }

    void end() {
        System.out.println(asked + " answers, " + wrong + " not as due");
        if (wrong != 0 || asked == 0) {
            System.exit(1);
        }
    }

    /** Three signs of a date as the number that mark() takes. */
    static int date(String signs) {
        return signs.charAt(0) << 16 | signs.charAt(1) << 8 | signs.charAt(2);
    }

    /** Types a whole text, eight bytes at a time. */
    static int type(CoverMarks x, String text) {
        int answer = 0;
        for (int at = 0; at < text.length(); at += 8) {
            String piece = text.substring(at, Math.min(text.length(), at + 8));
            answer = x.type(pack(piece), piece.length());
        }
        return answer;
    }

    static long pack(String piece) {
        long v = 0;
        for (int i = 0; i < piece.length(); i++) {
            v = v << 8 | piece.charAt(i) & 255;
        }
        return v;
    }
}
