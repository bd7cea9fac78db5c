import java.util.Arrays;

/** What tests begin with, and all that can be asked of an object as one text. */
final class Given {
    private Given() {
    }

    /** Puts a text into a new ROW of a SHELF. */
    static void text(ThirdEvening x, int s, int sort, String text) {
        x.row(s, sort, text.length());
        for (int i = 0; i < text.length(); i++) {
            x.set(s, i, text.charAt(i));
        }
    }

    /** Puts numbers into a new ROW of ints. */
    static void ints(ThirdEvening x, int s, int... numbers) {
        x.row(s, 2, numbers.length);
        for (int i = 0; i < numbers.length; i++) {
            x.set(s, i, numbers[i]);
        }
    }

    /** Puts one number many times into a new ROW of ints. */
    static void times(ThirdEvening x, int s, int count, int number) {
        int[] numbers = new int[count];
        Arrays.fill(numbers, number);
        ints(x, s, numbers);
    }

    /** PEOPLE of one KIND, whose OWN is 8, as LEVEL is at first, none of whom PAID. */
    static ThirdEvening people(int kind, int a, int count) {
        ThirdEvening x = new ThirdEvening();
        for (int i = 0; i < count; i++) {
            x.person(kind, a, 8, false);
        }
        return x;
    }

    /** SHY ones with a 9, whose WILL is 3 less what it rains. */
    static ThirdEvening shy(int count, int rain) {
        ThirdEvening x = people(2, 9, count);
        x.ask(1, rain);
        return x;
    }

    /**
     * Ten PEOPLE of all KINDS, the last of them GONE, of whom some are FRIENDS, and SHELVES: 0 three ints, 1 two
     * bytes, 2 number 4 (SLOW), 3 NOTHING, 4 the most ints, 5 a text with a FAULT at 4, 6 a long, 7 number 9.
     * There are a TRACE, a FAULT, REFUSALS, and, if that is wanted, an IMAGE, since which much has changed.
     */
    static ThirdEvening scene(boolean withImage) {
        ThirdEvening x = new ThirdEvening();
        int[] kinds = {0, 1, 2, 3, 4, 5, 6, 0, 2, 5};
        for (int i = 0; i < kinds.length; i++) {
            x.person(kinds[i], i, 4 + i, i % 2 == 0);
        }
        int[][] friends = {{0, 1}, {6, 3}, {2, 3}, {3, 6}, {8, 9}};
        for (int[] pair : friends) {
            x.friend(pair[0], pair[1]);
        }
        x.evenings(1);
        x.seed(5);
        if (withImage) {
            x.image();
        }
        x.ask(0, 9);
        x.ask(1, 1);
        x.ask(2, 5);
        x.ask(3, 4);
        x.go(9, true);
        x.friend(2, 6);
        x.drawn(1);
        ints(x, 0, 5, 6, 7);
        x.row(1, 0, 2);
        x.set(1, 1, 2);
        x.show(2, 4);
        x.row(4, 2, 160);
        x.set(4, 159, 31);
        text(x, 5, 0, "bar 77");
        x.row(6, 3, 1);
        x.set(6, 0, 1L << 40);
        x.show(7, 9);
        x.school(5);
        x.act(0, 1, 3);
        return x;
    }

    /** All that can be asked, but for REFUSALS and THE IMAGE; FRIENDS are asked by a change and back. */
    static String everything(ThirdEvening x) {
        StringBuilder all = new StringBuilder(state(x)).append(" FRIENDS");
        for (int i = 0; i < x.status(0); i++) {
            int friend = x.friend(i, -1);
            x.friend(i, friend);
            all.append(' ').append(friend);
        }
        all.append(" SHELVES");
        for (int s = 0; s < 8; s++) {
            all.append(' ').append(x.holds(s));
        }
        int[] places = {0, 1, 2, 159, 160};
        for (int s = 0; s < 8; s++) {
            for (int i : places) {
                all.append(i == 0 ? " | " : " ").append(x.element(s, i));
            }
        }
        all.append(" FAULT ").append(x.fault()).append(" TRACE");
        for (int i = 0; i < 4; i++) {
            all.append(' ').append(x.trace(i));
        }
        return all.append(" BODIES ").append(x.status(9)).toString();
    }

    /** All that is told of the SCHOOL without a change. */
    static String state(ThirdEvening x) {
        StringBuilder all = new StringBuilder();
        for (int what = 0; what <= 8; what++) {
            all.append(x.status(what)).append(' ');
        }
        for (int i = 0; i < x.status(0); i++) {
            all.append("| ");
            for (int what = 0; what <= 7; what++) {
                all.append(x.personOf(i, what)).append(' ');
            }
            all.append(x.chain(i));
        }
        return all.append("| ").append(x.pairs()).toString();
    }

    static String refusals(ThirdEvening x) {
        StringBuilder all = new StringBuilder();
        for (int what = 11; what <= 17; what++) {
            all.append(x.status(what)).append(' ');
        }
        return all.toString();
    }
}
