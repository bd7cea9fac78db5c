/** Promises 1 to 8: a new object, and SHELVES. */
final class ShelvesTest {
    private static final Due DUE = new Due("ShelvesTest");

    public static void main(String[] args) {
        newObject();
        row();
        set();
        copy();
        copyRefused();
        element();
        show();
        holds();
        says();
        saysRefused();
        DUE.end();
    }

    private static void newObject() {
        ThirdEvening x = new ThirdEvening();
        int[] first = {0, 8, 0, 8, 3, 0, 0, 0, 1, 0, -1, 0, 0, 0, 0, 0, 0, 0, -1};
        for (int what = 0; what < first.length; what++) {
            DUE.is("1 status(" + what + ")", x.status(what), first[what]);
        }
        for (int s = 0; s < 8; s++) {
            DUE.is("1 holds", x.holds(s), -1);
        }
        DUE.is("1 fault", x.fault(), -1);
        DUE.is("1 trace", x.trace(0), -1);
        DUE.is("1 nobody", x.personOf(0, 0), -5);
        DUE.is("1 no image", x.restore(), -6);
        DUE.is("1 NONE", ThirdEvening.NONE, -1);
    }

    private static void row() {
        ThirdEvening x = new ThirdEvening();
        DUE.is("2 row", x.row(0, 0, 0), 1);
        DUE.is("2 row, the most", x.row(7, 3, 160), 1);
        DUE.is("2 set the last", x.set(7, 159, 9), 1);
        DUE.is("2 row anew", x.row(7, 2, 160), 1);
        DUE.is("2 anew is 0", x.element(7, 159), 0);
        DUE.is("2 no shelf first", x.row(8, 4, -1), -1);
        DUE.is("2 no shelf", x.row(-1, 0, 1), -1);
        DUE.is("2 below ahead of the sort", x.row(0, 4, -1), -4);
        DUE.is("2 sort ahead of room", x.row(0, 4, 161), -6);
        DUE.is("2 sort below", x.row(0, -1, 1), -6);
        DUE.is("2 room", x.row(7, 0, 161), -7);
        DUE.is("2 nothing changed", x.holds(7), 102);
        DUE.is("2 counted", x.status(11) * 100 + x.status(14) * 10 + x.status(16), 212);
        DUE.is("2 counted room", x.status(17), 1);
        x.person(0, 0, 0, false);
        x.show(1, 0);
        DUE.is("2 row for a person", x.row(1, 1, 1), 1);
        DUE.is("2 it holds", x.holds(1), 101);
    }

    private static void set() {
        ThirdEvening x = new ThirdEvening();
        x.person(0, 0, 0, false);
        x.show(1, 0);
        x.row(0, 0, 2);
        DUE.is("3 set", x.set(0, 1, 5), 1);
        DUE.is("3 it is", x.element(0, 1), 5);
        DUE.is("3 the other isn't", x.element(0, 0), 0);
        DUE.is("3 no shelf", x.set(8, 9, 1), -1);
        DUE.is("3 a person", x.set(1, 9, 1), -2);
        DUE.is("3 nothing", x.set(2, 9, 1), -3);
        DUE.is("3 beyond", x.set(0, 2, 1), -5);
        DUE.is("3 below", x.set(0, -1, 1), -5);
        DUE.is("3 far", x.set(0, Integer.MAX_VALUE, 1), -5);
        long[] put = {200, 40000, (1L << 32) + 5, Long.MIN_VALUE + 7};
        long[] kept = {-56, -25536, 5, Long.MIN_VALUE + 7};
        for (int sort = 0; sort < 4; sort++) {
            x.row(3, sort, 1);
            x.set(3, 0, put[sort]);
            DUE.is("3 lowest bits, sort " + sort, x.element(3, 0), kept[sort]);
        }
    }

    private static void copy() {
        ThirdEvening x = new ThirdEvening();
        Due.ints(x, 0, 1, 2, 3, 4, 5);
        DUE.is("4 copy on", x.copy(0, 0, 0, 1, 4), 1);
        int[] on = {1, 1, 2, 3, 4};
        for (int i = 0; i < 5; i++) {
            DUE.is("4 on " + i, x.element(0, i), on[i]);
        }
        DUE.is("4 copy back", x.copy(0, 0, 1, 0, 4), 1);
        int[] back = {1, 2, 3, 4, 4};
        for (int i = 0; i < 5; i++) {
            DUE.is("4 back " + i, x.element(0, i), back[i]);
        }
        Due.ints(x, 1, 7, 8, 9);
        DUE.is("4 copy over", x.copy(1, 0, 1, 3, 2), 1);
        DUE.is("4 over", x.element(0, 3) * 10 + x.element(0, 4), 89);
        DUE.is("4 none", x.copy(1, 0, 3, 5, 0), 1);
        DUE.is("4 none, no end", x.copy(1, 0, 4, 5, 0), -5);
    }

    private static void copyRefused() {
        ThirdEvening x = new ThirdEvening();
        x.person(0, 0, 0, false);
        x.show(6, 0);
        Due.ints(x, 0, 1, 2);
        x.row(1, 1, 2);
        x.row(3, 2, 3);
        DUE.is("4 no shelf p", x.copy(8, 6, 0, 0, 1), -1);
        DUE.is("4 no shelf q", x.copy(6, -1, 0, 0, 1), -1);
        DUE.is("4 a person and nothing", x.copy(6, 2, 0, 0, -1), -2);
        DUE.is("4 nothing and a person", x.copy(2, 6, 0, 0, -1), -2);
        DUE.is("4 two sorts", x.copy(0, 1, 0, 0, -1), -2);
        DUE.is("4 a row and nothing", x.copy(0, 2, 0, 0, -1), -3);
        DUE.is("4 nothing and a row", x.copy(2, 1, 0, 0, -1), -3);
        DUE.is("4 n below", x.copy(0, 3, -1, 0, -1), -4);
        DUE.is("4 i below", x.copy(0, 3, -1, 0, 1), -5);
        DUE.is("4 j below", x.copy(0, 3, 0, -1, 1), -5);
        DUE.is("4 i beyond", x.copy(0, 3, 1, 0, 2), -5);
        DUE.is("4 j beyond", x.copy(0, 3, 0, 2, 2), -5);
        DUE.is("4 far", x.copy(0, 3, Integer.MAX_VALUE, 1, Integer.MAX_VALUE), -5);
        DUE.is("4 far j", x.copy(0, 3, 0, Integer.MAX_VALUE, 1), -5);
        DUE.is("4 counted", x.status(11) * 10000 + x.status(12) * 1000 + x.status(13) * 100
            + x.status(14) * 10 + x.status(15), 23216);
        DUE.is("4 nothing changed", x.element(3, 0), 0);
    }

    private static void element() {
        ThirdEvening x = new ThirdEvening();
        x.person(0, 0, 0, false);
        x.show(1, 0);
        x.row(0, 3, 1);
        x.set(0, 0, -5_000_000_000L);
        DUE.is("5 element", x.element(0, 0), -5_000_000_000L);
        DUE.is("5 beyond", x.element(0, 1), 0);
        DUE.is("5 below", x.element(0, -1), 0);
        DUE.is("5 no shelf", x.element(8, 0), 0);
        DUE.is("5 a person", x.element(1, 0), 0);
        DUE.is("5 nothing", x.element(2, 0), 0);
        x.show(0, -1);
        DUE.is("5 the row is away", x.element(0, 0), 0);
        for (int no = 11; no <= 17; no++) {
            DUE.is("5 nothing is refused", x.status(no), 0);
        }
    }

    private static void show() {
        ThirdEvening x = new ThirdEvening();
        x.person(1, 0, 0, false);
        x.person(2, 0, 0, false);
        DUE.is("6 show", x.show(7, 1), 1);
        DUE.is("6 it holds", x.holds(7), 1);
        DUE.is("6 no such person", x.show(7, 2), -1);
        DUE.is("6 below NONE", x.show(7, -2), -1);
        DUE.is("6 no shelf", x.show(8, -1), -1);
        DUE.is("6 still", x.holds(7), 1);
        DUE.is("6 nothing", x.show(7, -1), 0);
        DUE.is("6 it holds nothing", x.holds(7), -1);
        DUE.is("6 counted", x.status(11), 3);
    }

    private static void holds() {
        ThirdEvening x = new ThirdEvening();
        x.person(1, 0, 0, false);
        for (int sort = 0; sort < 4; sort++) {
            x.row(sort, sort, 0);
            DUE.is("7 a row", x.holds(sort), 100 + sort);
        }
        x.show(0, 0);
        DUE.is("7 a person", x.holds(0), 0);
        DUE.is("7 nothing", x.holds(7), -1);
        DUE.is("7 no shelf", x.holds(8), -1);
        DUE.is("7 no shelf below", x.holds(-1), -1);
        DUE.is("7 nothing is refused", x.status(11), 0);
    }

    private static void says() {
        ThirdEvening x = new ThirdEvening();
        x.person(6, 1, 8, false);
        x.person(4, 2, 9, false);
        x.person(5, 3, 10, false);
        x.person(3, 9, 8, false);
        for (int s = 0; s < 4; s++) {
            x.show(s, s);
        }
        x.ask(1, 9);
        // the twin: 12 - 9 + 3 = 6 comes; slow: 12 - 9 - 2 = 1 comes; the fan: -18 doesn't; cheerful comes
        x.evenings(1);
        // slow now: OWN 10, half of 2 is 1, twice: 3 - 1 - 2 - 1 = -1 doesn't come
        x.evenings(1);
        DUE.is("8 twin as person", x.says(0, 0), 10);
        DUE.is("8 twin as eager", x.says(0, 1), 2);
        DUE.is("8 twin as cheerful", x.says(0, 3), 2);
        DUE.is("8 twin", x.says(0, 6), 2);
        DUE.is("8 slow as person", x.says(1, 0), 10);
        DUE.is("8 slow as shy", x.says(1, 2), 1);
        DUE.is("8 slow", x.says(1, 4), 1);
        DUE.is("8 fan", x.says(2, 5), 3);
        DUE.is("8 fan as person", x.says(2, 0), x.personOf(2, 2));
        DUE.is("8 cheerful", x.says(3, 3), 2);
    }

    private static void saysRefused() {
        ThirdEvening x = new ThirdEvening();
        x.person(3, 1, 8, false);
        x.show(0, 0);
        x.row(1, 0, 1);
        DUE.is("8 no shelf", x.says(8, 0), -1);
        DUE.is("8 no kind", x.says(0, 7), -1);
        DUE.is("8 no kind ahead of a row", x.says(1, -1), -1);
        DUE.is("8 a row", x.says(1, 0), -2);
        DUE.is("8 below his kind", x.says(0, 6), -2);
        DUE.is("8 beside his kind", x.says(0, 2), -2);
        DUE.is("8 beside his kind, fan", x.says(0, 5), -2);
        DUE.is("8 nothing", x.says(2, 0), -3);
        DUE.is("8 counted", x.status(11) * 100 + x.status(12) * 10 + x.status(13), 341);
    }
}
