/** Promises 33 to 40: EVENINGS in truth and by draws, MOVES, THE IMAGE, what is counted. */
final class TruthTest {
    private static final Due DUE = new Due("TruthTest");

    public static void main(String[] args) {
        evenings();
        drawn();
        drawsOnAndOn();
        seed();
        actOfKinds();
        actWraps();
        actOfNobody();
        image();
        imageLeavesTheRest();
        restoreShelves();
        status();
        DUE.end();
    }

    private static void evenings() {
        ThirdEvening x = new ThirdEvening();
        DUE.is("33 nobody", x.evenings(2), 0);
        x.person(0, 0, 8, false);
        x.person(5, 1, 8, false);
        // the fan stays away on evening 3, 6, ..
        DUE.is("33 two", x.evenings(2), 3);
        DUE.is("33 evening", x.status(5), 4);
        DUE.is("33 comings", x.status(7), 3);
        DUE.is("33 the most", x.evenings(24), 24 + 16);
        DUE.is("33 evening then", x.status(5), 28);
        DUE.is("33 own", x.personOf(0, 2), 20);
        DUE.is("33 rain stands", x.status(2), 0);
        DUE.is("33 seed stands", x.status(8), 1);
        DUE.is("33 none", x.evenings(0), -6);
        DUE.is("33 below", x.evenings(-1), -6);
        DUE.is("33 too many", x.evenings(25), -6);
        DUE.is("33 nothing is changed", x.status(5), 28);
        DUE.is("33 counted", x.status(16), 3);
    }

    private static void drawn() {
        ThirdEvening x = new ThirdEvening();
        x.person(2, 5, 8, false);
        // rain 8: 12 - 8 - 5 = -1 stays away
        DUE.is("34 one", x.drawn(1), 0);
        DUE.is("34 rain", x.status(2), 8);
        DUE.is("34 seed", x.status(8), 1103527590);
        DUE.is("34 behind", x.personOf(0, 4), 1);
        DUE.is("34 evening", x.status(5), 1);
        DUE.is("34 none", x.drawn(0), -6);
        DUE.is("34 below", x.drawn(-1), -6);
        DUE.is("34 too many", x.drawn(25), -6);
        DUE.is("34 nothing is drawn", x.status(8), 1103527590);
        DUE.is("34 counted", x.status(16), 3);
    }

    private static void drawsOnAndOn() {
        ThirdEvening x = new ThirdEvening();
        ThirdEvening y = new ThirdEvening();
        x.person(0, 0, 8, true);
        y.person(0, 0, 8, true);
        x.person(3, 1, 12, false);
        y.person(3, 1, 12, false);
        x.seed(-7);
        long seed = -7;
        int seated = 0;
        for (int i = 0; i < 24; i++) {
            seed = (int) (seed * 1103515245L + 12345L);
            y.ask(1, (int) ((seed & 0xFFFFFFFFL) / 65536 % 10));
            seated += y.evenings(1);
        }
        DUE.is("34 24 together", x.drawn(24), seated);
        DUE.is("34 seed", x.status(8), seed);
        DUE.is("34 rain", x.status(2), y.status(2));
        DUE.is("34 gone", x.status(6), y.status(6));
        DUE.is("34 own", x.personOf(1, 2), y.personOf(1, 2));
    }

    private static void seed() {
        ThirdEvening x = new ThirdEvening();
        DUE.is("35 first", x.seed(Integer.MIN_VALUE), 1);
        DUE.is("35 then", x.seed(-1), Integer.MIN_VALUE);
        DUE.is("35 it is", x.status(8), -1);
        x.drawn(1);
        // -1103515245 + 12345 = -1103502900: its upper 16 bits are 48697
        DUE.is("35 drawn by it", x.status(8), -1103502900);
        DUE.is("35 no sign", x.status(2), 7);
    }

    private static void act(int kind, int move, int want, int... bodies) {
        ThirdEvening x = new ThirdEvening();
        x.person(0, 0, 0, false);
        x.person(0, 0, 0, false);
        x.person(kind, 3, 0, false);
        DUE.is("36 move " + move + " of kind " + kind, x.act(2, move, 5), want);
        DUE.is("40 bodies of move " + move + " of kind " + kind, x.status(9), bodies.length);
        for (int i = 0; i < bodies.length; i++) {
            DUE.is("37 trace of move " + move + " of kind " + kind, x.trace(i), bodies[i]);
        }
        DUE.is("37 no more", x.trace(bodies.length), -1);
        DUE.is("37 none below", x.trace(-1), -1);
        DUE.is("37 none far", x.trace(20), -1);
    }

    private static void actOfKinds() {
        act(0, 0, 7, 10);
        act(0, 1, 14, 11, 10);
        act(0, 2, 14 ^ 4, 12, 11, 10, 10);
        act(1, 0, 10, 20, 10);
        act(1, 1, 20, 11, 20, 10);
        act(1, 2, 20 ^ 7, 12, 11, 20, 10, 20, 10);
        act(2, 0, 7, 10);
        act(2, 1, 42, 30, 11, 10);
        act(2, 2, 42 ^ 4, 12, 30, 11, 10, 10);
        act(3, 0, 11, 40, 20, 10);
        act(3, 1, 22, 11, 40, 20, 10);
        act(3, 2, 22 ^ 8, 12, 11, 40, 20, 10, 40, 20, 10);
        act(4, 0, 7, 10);
        act(4, 1, 42, 30, 11, 10);
        act(4, 2, 42 ^ 4 ^ 5, 60, 12, 30, 11, 10, 10);
        act(5, 0, 5, 51, 10);
        act(5, 1, 10, 11, 51, 10);
        act(5, 2, -(10 ^ 2), 50, 12, 11, 51, 10, 51, 10);
        act(6, 0, 22, 70, 40, 20, 10);
        act(6, 1, 32, 71, 11, 70, 40, 20, 10);
        act(6, 2, 32 ^ 16, 12, 71, 11, 70, 40, 20, 10, 70, 40, 20, 10);
    }

    private static void actWraps() {
        ThirdEvening x = new ThirdEvening();
        x.person(0, 0, 0, false);
        x.person(0, 2, 0, false);
        x.person(2, 9, 0, false);
        DUE.is("36 comes wraps", x.act(1, 0, Integer.MAX_VALUE), Integer.MIN_VALUE);
        DUE.is("36 sits wraps", x.act(1, 1, Integer.MAX_VALUE), 0);
        DUE.is("36 asks wraps", x.act(1, 2, Integer.MIN_VALUE), 2 ^ Integer.MAX_VALUE);
        DUE.is("36 sits three times wraps", x.act(2, 1, 1 << 30), Integer.MIN_VALUE + 12);
        x.go(1, true);
        DUE.is("36 gone or not", x.act(1, 0, 1), 2);
    }

    private static void actOfNobody() {
        ThirdEvening x = new ThirdEvening();
        x.person(1, 1, 1, false);
        int[][] wrong = {{1, 0}, {-1, 0}, {0, 3}, {0, -1}, {Integer.MAX_VALUE, Integer.MIN_VALUE}};
        for (int[] call : wrong) {
            x.act(0, 2, 7);
            DUE.is("37 a trace", x.trace(0), 12);
            DUE.is("36 no such", x.act(call[0], call[1], 7), 0);
            DUE.is("37 no trace then", x.trace(0), -1);
            DUE.is("40 no bodies then", x.status(9), 0);
        }
        DUE.is("36 nothing is refused", x.status(11) + x.status(15) + x.status(16), 0);
    }

    private static void image() {
        ThirdEvening x = new ThirdEvening();
        DUE.is("39 none yet", x.restore(), -6);
        DUE.is("39 counted", x.status(16), 1);
        DUE.is("38 of nobody", x.image(), 0);
        for (int i = 0; i < 7; i++) {
            x.person(i, i, 8, i % 2 == 0);
        }
        x.friend(0, 1);
        x.friend(6, 5);
        for (int what = 0; what < 4; what++) {
            x.ask(what, what + 1);
        }
        x.drawn(3);
        x.go(2, true);
        String before = Due.state(x);
        DUE.is("38 of seven", x.image(), 7);
        DUE.is("38 nothing is changed", Due.state(x).equals(before) ? 1 : 0, 1);
        x.person(0, 0, 0, false);
        x.friend(0, 7);
        x.friend(6, -1);
        x.seed(99);
        x.go(2, false);
        for (int what = 0; what < 4; what++) {
            x.ask(what, 9);
        }
        x.evenings(9);
        DUE.is("39 restore", x.restore(), 7);
        DUE.is("39 all is as it was", Due.state(x).equals(before) ? 1 : 0, 1);
        DUE.is("39 friend", x.friend(0, 1), 1);
        DUE.is("39 friend of the last", x.friend(6, 5), 5);
        x.evenings(4);
        DUE.is("39 restore again", x.restore(), 7);
        DUE.is("39 the image is its own", Due.state(x).equals(before) ? 1 : 0, 1);
    }

    private static void imageLeavesTheRest() {
        ThirdEvening x = new ThirdEvening();
        x.person(0, 0, 8, false);
        x.image();
        Due.text(x, 0, 0, "bar 99");
        x.school(0);
        x.act(0, 1, 1);
        x.row(9, 0, 0);
        DUE.is("39 restore", x.restore(), 1);
        DUE.is("39 the fault stays", x.fault(), 4);
        DUE.is("39 the trace stays", x.trace(0) * 100 + x.trace(1), 1110);
        DUE.is("39 bodies stay", x.status(9), 2);
        DUE.is("39 refusals stay", x.status(11) * 10 + x.status(16), 11);
        DUE.is("39 rows stay", x.element(0, 0), 'b');
    }

    private static void restoreShelves() {
        ThirdEvening x = new ThirdEvening();
        x.person(0, 0, 1, false);
        x.person(0, 0, 2, false);
        x.show(3, 1);
        x.image();
        x.person(0, 0, 3, false);
        x.show(0, 0);
        x.show(1, 2);
        x.show(7, 2);
        x.row(2, 1, 4);
        x.row(3, 2, 4);
        x.show(4, 1);
        DUE.is("39 restore", x.restore(), 2);
        int[] holds = {0, -1, 101, 102, 1, -1, -1, -1};
        for (int s = 0; s < 8; s++) {
            DUE.is("39 shelf " + s, x.holds(s), holds[s]);
        }
        DUE.is("39 it is nothing", x.says(1, 0), -3);
        DUE.is("39 he says", x.says(4, 0), 2);
        DUE.is("39 the next is new", x.person(1, 5, 9, true), 2);
        DUE.is("39 and not shown", x.holds(1), -1);
    }

    private static void status() {
        ThirdEvening x = new ThirdEvening();
        x.person(0, 0, 8, false);
        x.person(1, 0, 8, false);
        x.person(2, 9, 0, false);
        x.ask(0, 7);
        x.ask(1, 1);
        x.ask(2, 6);
        x.ask(3, 2);
        x.evenings(2);
        x.seed(77);
        x.act(0, 2, 0);
        x.row(8, 0, 0);
        x.friend(9, 9);
        x.show(0, 0);
        x.set(0, 0, 0);
        x.set(1, 0, 0);
        x.row(1, 0, -1);
        x.personOf(9, 0);
        x.ring(1, 2);
        x.price(25);
        x.row(1, 0, 161);
        int[] is = {3, 7, 1, 6, 2, 2, 1, 4, 77, 4, -1, 2, 1, 1, 1, 2, 1, 1, -1};
        for (int what = 0; what < is.length; what++) {
            DUE.is("40 status(" + what + ")", x.status(what), is[what]);
        }
        DUE.is("40 below", x.status(-1), -1);
        DUE.is("40 far", x.status(Integer.MAX_VALUE), -1);
        DUE.is("40 far below", x.status(Integer.MIN_VALUE), -1);
    }
}
