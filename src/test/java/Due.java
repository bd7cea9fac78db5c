/** Counts and prints the answers that are not as due, and ends a test with them. */
final class Due {
    private final String test;
    private int asked;
    private int wrong;

    Due(String test) {
        this.test = test;
    }

    void is(String call, long got, long want) {
        asked++;
        if (got != want) {
            wrong++;
            System.out.println(test + ": " + call + " answered " + got + ", due is " + want);
        }
    }

    int wrong() {
        return wrong;
    }

    void end() {
        System.out.println(test + ": " + asked + " answers, " + wrong + " not as due");
        if (wrong != 0 || asked == 0) {
            System.exit(1);
        }
    }

    /** Puts a text into a new ROW of a SHELF. */
    static void text(ThirdEvening x, int s, int sort, String text) {
        x.row(s, sort, text.length());
        for (int i = 0; i < text.length(); i++) {
            x.set(s, i, text.charAt(i));
        }
    }

    /** Puts numbers into a new ROW of ints. */
    static void ints(ThirdEvening x, int s, int... numbers) {
        x.row(s, 2, numbers.length);
        for (int i = 0; i < numbers.length; i++) {
            x.set(s, i, numbers[i]);
        }
    }

    /** All that can be asked without a change, but for SHELVES, as one text. */
    static String state(ThirdEvening x) {
        StringBuilder all = new StringBuilder();
        for (int what = 0; what <= 8; what++) {
            all.append(x.status(what)).append(' ');
        }
        for (int i = 0; i < x.status(0); i++) {
            all.append("| ");
            for (int what = 0; what <= 7; what++) {
                all.append(x.personOf(i, what)).append(' ');
            }
            all.append(x.chain(i));
        }
        return all.append("| ").append(x.pairs()).toString();
    }
}
