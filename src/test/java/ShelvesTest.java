/** Promises 1 to 8: a new object, and SHELVES. What is refused is in RefusalsTest. */
final class ShelvesTest {
    private static final Due DUE = new Due("ShelvesTest");
    private static final String OUTCOME = "WHAT COMES OF IT";

    public static void main(String[] args) {
        newObject();
        shelves();
        row();
        sortsAndSizes();
        lowestBits();
        readAsInts();
        set();
        copy();
        copyOfAll();
        element();
        show();
        holds();
        says();
        saysAsAnyKind();
        DUE.end();
    }

    private static void newObject() {
        ThirdEvening x = new ThirdEvening();
        DUE.of("Promise 1", "Nobody");
        int[] first = {0, 8, 0, 8, 3, 0, 0, 0, 1, 0, -1, 0, 0, 0, 0, 0, 0, 0, -1};
        for (int what = 0; what < first.length; what++) {
            DUE.is("status(" + what + ")", x.status(what), first[what]);
        }
        DUE.is("tonight(0)", x.tonight(0), 0);
        DUE.is("image()", x.image(), 0);
        DUE.is("fault()", x.fault(), -1);
        DUE.is("trace(0)", x.trace(0), -1);
        DUE.is("personOf(0, 0)", x.personOf(0, 0), -5);
        DUE.is("restore() of a new object", new ThirdEvening().restore(), -6);
        DUE.is("NONE", ThirdEvening.NONE, -1);
    }

    private static void shelves() {
        ThirdEvening x = new ThirdEvening();
        DUE.of(OUTCOME, "SHELVES 0 to 7 hold NOTHING (at first), a ROW, or one of the PEOPLE");
        x.person(0, 0, 0, false);
        for (int s = 0; s <= 7; s++) {
            DUE.is("holds(" + s + ") at first", x.holds(s), -1);
            DUE.is("row(" + s + ", 0, 0)", x.row(s, 0, 0), 1);
            DUE.is("holds(" + s + ") then", x.holds(s), 100);
            DUE.is("show(" + s + ", 0)", x.show(s, 0), 1);
            DUE.is("holds(" + s + ") at last", x.holds(s), 0);
        }
        DUE.is("row(-1, 0, 0)", x.row(-1, 0, 0), -1);
        DUE.is("row(8, 0, 0)", x.row(8, 0, 0), -1);
        DUE.is("show(-1, 0)", x.show(-1, 0), -1);
        DUE.is("show(8, 0)", x.show(8, 0), -1);
    }

    private static void row() {
        ThirdEvening x = new ThirdEvening();
        DUE.of("Promise 2", "SHELF s holds a new ROW: 1");
        DUE.is("row(7, 3, 160)", x.row(7, 3, 160), 1);
        x.set(7, 0, 8);
        x.set(7, 159, 9);
        DUE.is("row(7, 2, 160) over it", x.row(7, 2, 160), 1);
        DUE.is("element(7, 0) of the new one", x.element(7, 0), 0);
        DUE.is("element(7, 159) of the new one", x.element(7, 159), 0);
        x.set(7, 2, 5);
        DUE.is("row(7, 2, 2) over it", x.row(7, 2, 2), 1);
        DUE.is("set(7, 2) behind its end", x.set(7, 2, 5), -5);
        DUE.is("row(7, 2, 3) over it", x.row(7, 2, 3), 1);
        DUE.is("element(7, 2) of the newest", x.element(7, 2), 0);
        x.person(0, 0, 0, false);
        x.show(7, 0);
        DUE.is("row(7, 1, 1) over a person", x.row(7, 1, 1), 1);
        DUE.is("holds(7)", x.holds(7), 101);
        DUE.is("set(7, 0) of it", x.set(7, 0, 3), 1);
        DUE.is("says(7, 0) of it", x.says(7, 0), -2);
        x.show(7, 0);
        DUE.is("set(7, 0) of a person over a ROW", x.set(7, 0, 3), -2);
        DUE.is("element(7, 0) of a person over a ROW", x.element(7, 0), 0);
        x.row(6, 2, 1);
        x.set(6, 0, 4);
        x.row(7, 2, 1);
        DUE.is("the ROW beside it", x.element(6, 0), 4);
    }

    private static void sortsAndSizes() {
        ThirdEvening x = new ThirdEvening();
        DUE.of(OUTCOME, "A ROW has a SORT (0 bytes, 1 shorts, 2 ints, 3 longs) and 0 to 160 elements, 0 at first");
        DUE.is("row(0, -1, 1)", x.row(0, -1, 1), -6);
        DUE.is("row(0, 4, 1)", x.row(0, 4, 1), -6);
        DUE.is("row(0, 0, -1)", x.row(0, 0, -1), -4);
        DUE.is("row(0, 0, 161)", x.row(0, 0, 161), -7);
        for (int sort = 0; sort <= 3; sort++) {
            DUE.is("row(0, " + sort + ", 0)", x.row(0, sort, 0), 1);
            DUE.is("set(0, 0, 1) of no elements", x.set(0, 0, 1), -5);
            DUE.is("row(1, " + sort + ", 160)", x.row(1, sort, 160), 1);
            DUE.is("holds(1)", x.holds(1), 100 + sort);
            DUE.is("set(1, 159, 1) of the most", x.set(1, 159, 1), 1);
            DUE.is("set(1, 160, 1) of the most", x.set(1, 160, 1), -5);
        }
        x.row(2, 3, 160);
        for (int i = 0; i < 160; i++) {
            DUE.is("element(2, " + i + ") at first", x.element(2, i), 0);
        }
    }

    private static void lowestBits() {
        ThirdEvening x = new ThirdEvening();
        DUE.of(OUTCOME, "what is put in keeps its lowest bits");
        for (int sort = 0; sort <= 3; sort++) {
            x.row(sort, sort, 1);
            long most = Long.MAX_VALUE >> 64 - (8 << sort);
            long[][] putAndKept = {
                {0, 0}, {1, 1}, {-1, -1}, {most, most}, {-most - 1, -most - 1},
                {most + 1, -most - 1}, {-most - 2, most}, {2 * most + 2, 0}, {2 * most + 3, 1},
                {Long.MAX_VALUE, sort == 3 ? Long.MAX_VALUE : -1}, {Long.MIN_VALUE, sort == 3 ? Long.MIN_VALUE : 0},
            };
            for (long[] one : putAndKept) {
                DUE.is("set(" + sort + ", 0, " + one[0] + ")", x.set(sort, 0, one[0]), 1);
                DUE.is("then element(" + sort + ", 0)", x.element(sort, 0), one[1]);
            }
        }
        DUE.is("bytes of 200", puts(x, 0, 200), -56);
        DUE.is("shorts of 40000", puts(x, 1, 40000), -25536);
        DUE.is("ints of 2 to the 32 and 5", puts(x, 2, (1L << 32) + 5), 5);
        DUE.is("longs of 2 to the 40 and 5", puts(x, 3, (1L << 40) + 5), (1L << 40) + 5);
    }

    private static long puts(ThirdEvening x, int s, long v) {
        x.set(s, 0, v);
        return x.element(s, 0);
    }

    private static void readAsInts() {
        DUE.of(OUTCOME, "All is read as ints (of longs the lowest 32 bits)");
        String text = "bar 7";
        ThirdEvening x = new ThirdEvening();
        x.row(0, 3, 5);
        for (int i = 0; i < 5; i++) {
            x.set(0, i, text.charAt(i) + (1L << 32 + i));
        }
        DUE.is("school() by longs", x.school(0), 1);
        DUE.is("BAR", x.status(4), 7);
        for (int sort = 2; sort <= 3; sort++) {
            Given.text(x, 0, sort, text);
            x.set(0, 2, 'r' + (1L << 31));
            DUE.is("school() with the highest of 32 bits, SORT " + sort, x.school(0), -6);
            DUE.is("its FAULT", x.fault(), 2);
        }
        Given.text(x, 0, 1, text);
        x.set(0, 2, 'r' + (1L << 16));
        DUE.is("school() by shorts that keep but 16 bits", x.school(0), 1);
        x.set(0, 2, 'r' + (1L << 8));
        DUE.is("school() by shorts, not by their lowest 8 bits", x.school(0), -6);

        ThirdEvening y = Given.people(0, 0, 8);
        y.row(0, 3, 1);
        y.set(0, 0, (1L << 40) + 255);
        DUE.is("judge() by longs", y.judge(0, 1), -1);
        DUE.is("friends() by longs", y.friends(0, 1, 0), 256 + 254);
        y.set(0, 0, (1L << 31) + 255);
        DUE.is("judge() by longs, not so", y.judge(0, 1), 0);
        DUE.is("friends() by longs, not so", y.friends(0, 1, 0), 0);
        y.row(1, 1, 1);
        y.set(1, 0, 255);
        DUE.is("judge() by shorts", y.judge(1, 1), -1);
        y.row(1, 0, 1);
        y.set(1, 0, 255);
        DUE.is("judge() by bytes, of which 255 is -1", y.judge(1, 1), 0);
    }

    private static void set() {
        ThirdEvening x = new ThirdEvening();
        DUE.of("Promise 3", "Element i of the ROW becomes v: 1");
        x.row(0, 2, 3);
        int[] order = {2, 0, 1, 2};
        for (int i : order) {
            DUE.is("set(0, " + i + ")", x.set(0, i, 50 + i), 1);
            DUE.is("element(0, " + i + ")", x.element(0, i), 50 + i);
        }
        x.set(0, 1, -7);
        DUE.is("the one ahead of it", x.element(0, 0), 50);
        DUE.is("it", x.element(0, 1), -7);
        DUE.is("the one behind it", x.element(0, 2), 52);
    }

    private static void is(ThirdEvening x, int s, String what, int... elements) {
        for (int i = 0; i < elements.length; i++) {
            DUE.is(what + ", element " + i, x.element(s, i), elements[i]);
        }
    }

    private static void copy() {
        ThirdEvening x = new ThirdEvening();
        DUE.of("Promise 4", "Elements i, i + 1, .. of the ROW in SHELF p, n of them");
        Given.ints(x, 0, 1, 2, 3, 4, 5);
        Given.ints(x, 1, 7, 8, 9);
        DUE.is("copy(1, 0, 1, 3, 2)", x.copy(1, 0, 1, 3, 2), 1);
        is(x, 0, "over", 1, 2, 3, 8, 9);
        is(x, 1, "it stays", 7, 8, 9);
        DUE.is("copy(0, 1, 0, 2, 1)", x.copy(0, 1, 0, 2, 1), 1);
        is(x, 1, "the last", 7, 8, 1);
        DUE.is("copy(1, 0, 0, 0, 0) of none", x.copy(1, 0, 0, 0, 0), 1);
        DUE.is("copy(1, 0, 3, 5, 0) of none at the ends", x.copy(1, 0, 3, 5, 0), 1);
        is(x, 0, "none came", 1, 2, 3, 8, 9);

        DUE.of("Promise 4", "come to elements j, j + 1, .. of that in q (as they were ahead): 1");
        Given.ints(x, 0, 1, 2, 3, 4, 5);
        DUE.is("copy(0, 0, 0, 1, 4)", x.copy(0, 0, 0, 1, 4), 1);
        is(x, 0, "one on", 1, 1, 2, 3, 4);
        DUE.is("copy(0, 0, 1, 0, 4)", x.copy(0, 0, 1, 0, 4), 1);
        is(x, 0, "one back", 1, 2, 3, 4, 4);
        DUE.is("copy(0, 0, 0, 0, 5) to itself", x.copy(0, 0, 0, 0, 5), 1);
        is(x, 0, "as it was", 1, 2, 3, 4, 4);
    }

    private static void copyOfAll() {
        ThirdEvening x = new ThirdEvening();
        DUE.of("Promise 4", "or an end that isn't there");
        for (int sort = 0; sort <= 3; sort++) {
            x.row(0, sort, 160);
            x.row(1, sort, 160);
            x.set(0, 0, 3);
            x.set(0, 159, -4);
            DUE.is("copy(0, 1, 0, 0, 160) of the most", x.copy(0, 1, 0, 0, 160), 1);
            DUE.is("the first", x.element(1, 0), 3);
            DUE.is("the last", x.element(1, 159), -4);
            DUE.is("copy(0, 1, 0, 0, 161)", x.copy(0, 1, 0, 0, 161), -5);
            DUE.is("copy(0, 1, 159, 0, 1) of the last", x.copy(0, 1, 159, 0, 1), 1);
            DUE.is("it came", x.element(1, 0), -4);
            DUE.is("copy(0, 1, 0, 159, 2)", x.copy(0, 1, 0, 159, 2), -5);
            DUE.is("copy(0, 1, 160, 160, 0) of none at the ends", x.copy(0, 1, 160, 160, 0), 1);
            DUE.is("copy(0, 1, 161, 0, 0) of none behind the end", x.copy(0, 1, 161, 0, 0), -5);
            DUE.is("copy(0, 1, 0, 161, 0) of none behind the end", x.copy(0, 1, 0, 161, 0), -5);
        }
    }

    private static void element() {
        ThirdEvening x = new ThirdEvening();
        x.person(0, 0, 0, false);
        x.show(1, 0);
        x.row(0, 3, 2);
        x.set(0, 0, -5_000_000_000L);
        x.set(0, 1, 6);
        DUE.of("Promise 5", "Element i of the ROW");
        DUE.is("element(0, 0)", x.element(0, 0), -5_000_000_000L);
        DUE.is("element(0, 1)", x.element(0, 1), 6);

        DUE.of("Promise 5", "0 if there is none (nothing is refused)");
        int[] none = {-1, 2, 160, Integer.MIN_VALUE, Integer.MAX_VALUE};
        for (int i : none) {
            DUE.is("element(0, " + i + ")", x.element(0, i), 0);
            DUE.is("of a person", x.element(1, i), 0);
            DUE.is("of NOTHING", x.element(2, i), 0);
        }
        int[] noShelf = {-1, 8, Integer.MIN_VALUE, Integer.MAX_VALUE};
        for (int s : noShelf) {
            DUE.is("element(" + s + ", 0)", x.element(s, 0), 0);
        }
        x.show(0, -1);
        DUE.is("of a ROW that is away", x.element(0, 0), 0);
        x.row(0, 3, 0);
        DUE.is("of a ROW of none", x.element(0, 0), 0);
        DUE.same("REFUSALS", Given.refusals(x), "0 0 0 0 0 0 0 ");
    }

    private static void show() {
        ThirdEvening x = new ThirdEvening();
        DUE.of("Promise 6", "SHELF s holds one of the PEOPLE, or NOTHING (person NONE): 1, 0");
        DUE.is("show(0, -1) where there is nobody", x.show(0, -1), 0);
        x.person(1, 0, 0, false);
        x.person(2, 0, 0, false);
        DUE.is("show(0, 0), the first", x.show(0, 0), 1);
        DUE.is("holds(0)", x.holds(0), 0);
        DUE.is("show(0, 1), the last", x.show(0, 1), 1);
        DUE.is("holds(0)", x.holds(0), 1);
        DUE.is("show(7, 1), once more", x.show(7, 1), 1);
        DUE.is("show(0, -1)", x.show(0, -1), 0);
        DUE.is("holds(0)", x.holds(0), -1);
        DUE.is("holds(7) still", x.holds(7), 1);
        x.row(3, 0, 4);
        DUE.is("show(3, -1) over a ROW", x.show(3, -1), 0);
        DUE.is("holds(3)", x.holds(3), -1);
        x.row(3, 0, 4);
        DUE.is("show(3, 0) over a ROW", x.show(3, 0), 1);
        DUE.is("holds(3)", x.holds(3), 0);
    }

    private static void holds() {
        ThirdEvening x = Given.people(0, 0, 10);
        DUE.of("Promise 7", "What SHELF s holds: NONE NOTHING, or no such SHELF");
        int[] none = {0, 7, -1, 8, Integer.MIN_VALUE, Integer.MAX_VALUE};
        for (int s : none) {
            DUE.is("holds(" + s + ")", x.holds(s), -1);
        }
        DUE.same("REFUSALS", Given.refusals(x), "0 0 0 0 0 0 0 ");

        DUE.of("Promise 7", "a PERSON's number");
        x.show(0, 0);
        x.show(7, 9);
        DUE.is("holds(0), the first", x.holds(0), 0);
        DUE.is("holds(7), the last", x.holds(7), 9);

        DUE.of("Promise 7", "100 and the SORT of a ROW");
        for (int sort = 0; sort <= 3; sort++) {
            x.row(sort, sort, 0);
            DUE.is("holds(" + sort + ")", x.holds(sort), 100 + sort);
        }
    }

    private static void says() {
        ThirdEvening x = new ThirdEvening();
        x.person(6, 1, 8, false);
        x.person(4, 2, 9, false);
        x.person(5, 3, 10, false);
        x.show(0, 0);
        x.show(1, 1);
        x.show(2, 2);
        x.ask(1, 9);
        // the twin: 12 - 9 + 3 = 6 comes; slow: 12 - 9 - 2 = 1 comes; the fan: -18 doesn't
        x.evenings(1);
        // slow now: OWN 10, half of 2 is 1, twice: 3 - 1 - 2 - 1 = -1 doesn't come; the fan: 2 - 2 = 0 doesn't
        x.evenings(1);
        DUE.of("Promise 8", "What the one in SHELF s, taken for one of a KIND, says: PERSON his OWN");
        DUE.is("the twin as PERSON", x.says(0, 0), 10);
        DUE.is("the slow one as PERSON", x.says(1, 0), 10);
        DUE.is("the fan as PERSON", x.says(2, 0), 10);
        DUE.of("Promise 8", "EAGER, CHEERFUL, TWIN his COMINGS");
        DUE.is("the twin as EAGER", x.says(0, 1), 2);
        DUE.is("the twin as CHEERFUL", x.says(0, 3), 2);
        DUE.is("the twin", x.says(0, 6), 2);
        DUE.of("Promise 8", "SHY, SLOW his BEHIND");
        DUE.is("the slow one as SHY", x.says(1, 2), 1);
        DUE.is("the slow one", x.says(1, 4), 1);
        DUE.of("Promise 8", "FAN his a");
        DUE.is("the fan", x.says(2, 5), 3);
    }

    // Each KIND as each KIND; number 1 comes thrice (a FAN twice), and is then turned away twice.
    private static void saysAsAnyKind() {
        boolean[][] under = new boolean[7][7];
        int[] above = {-1, 0, 0, 1, 2, 0, 3};
        for (int kind = 0; kind < 7; kind++) {
            for (int at = kind; at >= 0; at = above[at]) {
                under[kind][at] = true;
            }
        }
        DUE.of("THE SCHOOL", "each of a KIND: 0 PERSON; 1 EAGER, 2 SHY, 5 FAN, each under PERSON; 3 CHEERFUL, under EAGER; 4 SLOW, under SHY; 6 TWIN, under CHEERFUL");
        for (int kind = 0; kind < 7; kind++) {
            ThirdEvening x = new ThirdEvening();
            x.person(0, 0, 8, true);
            DUE.is("person of KIND " + kind, x.person(kind, 7, 8, true), 1);
            x.evenings(3);
            x.ask(2, 1);
            x.evenings(2);
            x.show(5, 1);
            int own = kind == 5 ? 10 : 11;
            int comings = kind == 5 ? 2 : 3;
            int[] said = {own, comings, 2, comings, 2, 7, comings};
            for (int taken = 0; taken < 7; taken++) {
                DUE.is("KIND " + kind + " says as " + taken, x.says(5, taken), under[kind][taken] ? said[taken] : -2);
            }
            DUE.is("KIND " + kind + " says as 7", x.says(5, 7), -1);
            DUE.is("KIND " + kind + " says as -1", x.says(5, -1), -1);
        }
        ThirdEvening x = new ThirdEvening();
        DUE.is("person of KIND -1", x.person(-1, 0, 0, true), -1);
        DUE.is("person of KIND 7", x.person(7, 0, 0, true), -1);
    }
}
