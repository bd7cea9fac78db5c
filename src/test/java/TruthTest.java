/** Promises 33 to 40: EVENINGS in truth and by draws, MOVES, THE IMAGE, what is counted. What is refused is in RefusalsTest. */
final class TruthTest {
    private static final Due DUE = new Due("TruthTest");
    private static final String OUTCOME = "WHAT COMES OF IT";

    public static void main(String[] args) {
        evenings();
        drawn();
        draws();
        drawsOnAndOn();
        seed();
        bodies();
        movesWrap();
        act();
        actOfNobody();
        trace();
        image();
        imageOfEach();
        imageLeavesTheRest();
        restore();
        restoreShelves();
        status();
        statusCounts();
        DUE.end();
    }

    private static void evenings() {
        DUE.of("Promise 33", "EVENINGS in truth, n (1 to 24): how many were SEATED together");
        ThirdEvening x = new ThirdEvening();
        DUE.is("evenings(2) of nobody", x.evenings(2), 0);
        x.person(0, 0, 8, false);
        x.person(5, 1, 8, false);
        // the fan stays away on EVENING 3, 6, ..
        DUE.is("evenings(1)", x.evenings(1), 2);
        DUE.is("evenings(1)", x.evenings(1), 1);
        DUE.is("status(5)", x.status(5), 4);
        DUE.is("status(7)", x.status(7), 3);
        DUE.is("evenings(24)", x.evenings(24), 24 + 16);
        DUE.is("status(5)", x.status(5), 28);
        DUE.is("status(7)", x.status(7), 43);
        DUE.is("RAIN stands", x.status(2), 0);
        int[] no = {0, -1, 25, Integer.MIN_VALUE, Integer.MAX_VALUE};
        for (int n : no) {
            DUE.is("evenings(" + n + ")", x.evenings(n), -6);
        }
        DUE.is("status(5) still", x.status(5), 28);
        DUE.of(OUTCOME, "IN TRUTH: EVENINGS");
        ThirdEvening y = Given.people(0, 0, 3);
        y.ask(2, 1);
        DUE.is("ahead(5, 1)", y.ahead(5, 1), 5);
        DUE.is("evenings(5)", y.evenings(5), 5);
        DUE.is("status(6)", y.status(6), 2);
        DUE.is("personOf(0, 6)", y.personOf(0, 6), 5);
        DUE.is("SEED stands", y.status(8), 1);
    }

    private static void drawn() {
        DUE.of("Promise 34", "EVENINGS by draws, n (1 to 24): how many were SEATED together");
        ThirdEvening x = new ThirdEvening();
        x.person(2, 5, 8, false);
        int[] no = {0, -1, 25, Integer.MIN_VALUE, Integer.MAX_VALUE};
        for (int n : no) {
            DUE.is("drawn(" + n + ")", x.drawn(n), -6);
        }
        DUE.is("status(8): nothing is drawn", x.status(8), 1);
        DUE.is("status(5)", x.status(5), 0);
        // RAIN 8: 12 - 8 - 5 = -1 stays away
        DUE.is("drawn(1)", x.drawn(1), 0);
        DUE.is("status(2)", x.status(2), 8);
        DUE.is("BEHIND", x.personOf(0, 4), 1);
        DUE.is("status(5)", x.status(5), 1);
        ThirdEvening ten = new ThirdEvening();
        for (int i = 0; i < 10; i++) {
            ten.person(1, 9, 20, false);
        }
        ten.ask(0, 20);
        ten.ask(2, 12);
        DUE.is("drawn(24) of ten who always come", ten.drawn(24), 240);
        DUE.is("status(5)", ten.status(5), 24);
    }

    private static void draws() {
        DUE.of(OUTCOME, "EVENINGS by draws, n: RAIN becomes a DRAW below 10 ahead of each");
        ThirdEvening x = Given.people(2, 5, 1);
        // SEED 1 draws 8, which lasts for the EVENING: RAIN 0, as it was ahead, would let him come
        DUE.is("drawn(1)", x.drawn(1), 0);
        DUE.is("status(2)", x.status(2), 8);
        x.seed(1);
        x.ask(1, 3);
        x.drawn(1);
        DUE.is("status(2) by the same SEED", x.status(2), 8);
        boolean[] seen = new boolean[11];
        for (int i = 0; i < 150; i++) {
            x.drawn(1);
            seen[Math.max(0, Math.min(10, x.status(2)))] = true;
        }
        for (int r = 0; r <= 10; r++) {
            DUE.is("it rained " + r, seen[r] ? 1 : 0, r < 10 ? 1 : 0);
        }
        DUE.of(OUTCOME, "A DRAW below n: SEED (1 at first) becomes SEED times 1103515245, and 12345 (an int, wrapping)");
        ThirdEvening y = new ThirdEvening();
        DUE.is("status(8) at first", y.status(8), 1);
        int[][] seeds = {{1, 1103527590}, {0, 12345}, {-1, -1103502900}, {2, (int) (2 * 1103515245L + 12345)},
            {Integer.MAX_VALUE, (int) (2147483647L * 1103515245L + 12345)},
            {Integer.MIN_VALUE, (int) (-2147483648L * 1103515245L + 12345)}};
        for (int[] one : seeds) {
            y.seed(one[0]);
            y.drawn(1);
            DUE.is("status(8) by SEED " + one[0], y.status(8), one[1]);
        }
        DUE.of(OUTCOME, "its upper 16 bits, no sign, modulo n");
        // 1103527590 / 65536 is 16838; 12345 / 65536 is 0; -1103502900 as 3191464396 / 65536 is 48697
        int[][] rains = {{1, 8}, {0, 0}, {-1, 7}};
        for (int[] one : rains) {
            y.seed(one[0]);
            y.drawn(1);
            DUE.is("status(2) by SEED " + one[0], y.status(2), one[1]);
        }
    }

    private static void drawsOnAndOn() {
        DUE.of("Promise 34", "EVENINGS by draws, n (1 to 24)");
        ThirdEvening x = new ThirdEvening();
        ThirdEvening y = new ThirdEvening();
        x.person(0, 0, 8, true);
        y.person(0, 0, 8, true);
        x.person(3, 1, 12, false);
        y.person(3, 1, 12, false);
        x.seed(-7);
        y.seed(-7);
        long seed = -7;
        int seated = 0;
        for (int i = 0; i < 24; i++) {
            seed = (int) (seed * 1103515245L + 12345L);
            y.ask(1, (int) ((seed & 0xFFFFFFFFL) / 65536 % 10));
            seated += y.evenings(1);
        }
        DUE.is("drawn(24)", x.drawn(24), seated);
        DUE.is("status(8)", x.status(8), seed);
        y.seed(x.status(8));
        DUE.same("all that stands", Given.state(x), Given.state(y));
    }

    private static void seed() {
        DUE.of("Promise 35", "SEED becomes v: what it was (nothing is refused)");
        ThirdEvening x = new ThirdEvening();
        int[] seeds = {Integer.MIN_VALUE, -1, 0, Integer.MAX_VALUE, 7, 7};
        int was = 1;
        for (int v : seeds) {
            DUE.is("seed(" + v + ")", x.seed(v), was);
            DUE.is("status(8)", x.status(8), v);
            was = v;
        }
        DUE.same("REFUSALS", Given.refusals(x), "0 0 0 0 0 0 0 ");
    }

    // Number 2 of a KIND, with an a of 3, is asked with 5.
    private static void move(int kind, int move, int want, int... bodies) {
        ThirdEvening x = new ThirdEvening();
        x.person(0, 0, 0, false);
        x.person(0, 0, 0, false);
        x.person(kind, 3, 0, false);
        String call = "act(2, " + move + ", 5) of KIND " + kind;
        DUE.is(call, x.act(2, move, 5), want);
        DUE.is("status(9) of " + call, x.status(9), bodies.length);
        for (int i = 0; i < bodies.length; i++) {
            DUE.is("trace(" + i + ") of " + call, x.trace(i), bodies[i]);
        }
        DUE.is("trace behind the last of " + call, x.trace(bodies.length), -1);
    }

    private static void bodies() {
        DUE.of(OUTCOME, "0 comes, 1 sits, 2 asks; m the number, k its a");
        ThirdEvening x = Given.people(0, 9, 10);
        DUE.is("act(7, 0, 20)", x.act(7, 0, 20), 27);
        DUE.is("act(7, 1, 20)", x.act(7, 1, 20), 54);
        DUE.is("act(7, 2, 20)", x.act(7, 2, 20), 54 ^ 18);
        DUE.of(OUTCOME, "BODIES, each with its number: PERSON: 10 comes: x + m. 11 sits: comes(x) * 2. 12 asks: sits(x) ^ comes(x - k)");
        move(0, 0, 7, 10);
        move(0, 1, 14, 11, 10);
        move(0, 2, 14 ^ 4, 12, 11, 10, 10);
        DUE.of(OUTCOME, "EAGER: 20 comes: super.comes(x) + k");
        move(1, 0, 10, 20, 10);
        move(1, 1, 20, 11, 20, 10);
        move(1, 2, 20 ^ 7, 12, 11, 20, 10, 20, 10);
        DUE.of(OUTCOME, "SHY: 30 sits: super.sits(x) * 3");
        move(2, 0, 7, 10);
        move(2, 1, 42, 30, 11, 10);
        move(2, 2, 42 ^ 4, 12, 30, 11, 10, 10);
        DUE.of(OUTCOME, "CHEERFUL: 40 comes: super.comes(x + 1)");
        move(3, 0, 11, 40, 20, 10);
        move(3, 1, 22, 11, 40, 20, 10);
        move(3, 2, 22 ^ 8, 12, 11, 40, 20, 10, 40, 20, 10);
        DUE.of(OUTCOME, "FAN: 50 asks: -super.asks(x). 51 comes: super.comes(x) - m");
        move(5, 0, 5, 51, 10);
        move(5, 1, 10, 11, 51, 10);
        move(5, 2, -(10 ^ 2), 50, 12, 11, 51, 10, 51, 10);
        DUE.of(OUTCOME, "SLOW: 60 asks: super.asks(x) ^ 5");
        move(4, 0, 7, 10);
        move(4, 1, 42, 30, 11, 10);
        move(4, 2, 42 ^ 4 ^ 5, 60, 12, 30, 11, 10, 10);
        DUE.of(OUTCOME, "TWIN: 70 comes: super.comes(x) * 2. 71 sits: super.sits(x - k)");
        move(6, 0, 22, 70, 40, 20, 10);
        move(6, 1, 32, 71, 11, 70, 40, 20, 10);
        move(6, 2, 32 ^ 16, 12, 71, 11, 70, 40, 20, 10, 70, 40, 20, 10);
        DUE.of(OUTCOME, "comes(..) and so on: the body of one's KIND, or of the next KIND above that has one; super: from the KIND above the body's on");
        move(4, 0, 7, 10);
        move(6, 1, 32, 71, 11, 70, 40, 20, 10);
        move(3, 1, 22, 11, 40, 20, 10);
    }

    private static ThirdEvening two(int kind, int a) {
        ThirdEvening x = new ThirdEvening();
        x.person(0, 0, 0, false);
        x.person(kind, a, 0, false);
        return x;
    }

    private static void movesWrap() {
        int most = Integer.MAX_VALUE;
        int least = Integer.MIN_VALUE;
        DUE.of(OUTCOME, "MOVES of PEOPLE, with x (wrapping)");
        DUE.is("10: x + m", two(0, 2).act(1, 0, most), least);
        DUE.is("11: comes(x) * 2", two(0, 2).act(1, 1, 1 << 30), least + 2);
        DUE.is("11: comes(x) * 2, m and x wrapped", two(0, 2).act(1, 1, most), 0);
        DUE.is("12: x - k", two(0, 2).act(1, 2, least), 2 ^ most);
        DUE.is("20: comes(x) + k", two(1, 9).act(1, 0, most), least + 9);
        DUE.is("30: sits(x) * 3", two(2, 9).act(1, 1, 1 << 30), least + 6);
        DUE.is("40: x + 1", two(3, 9).act(1, 0, most), least + 10);
        DUE.is("50: -super.asks(x) of the least", two(5, 0).act(1, 2, least), least);
        DUE.is("51: comes(x) - m", two(5, 0).act(1, 0, most), most);
        DUE.is("60: super.asks(x) ^ 5", two(4, 0).act(1, 2, least), 6 ^ least + 1 ^ 5);
        DUE.is("70: comes(x) * 2", two(6, 9).act(1, 0, most), 20);
        DUE.is("71: x - k", two(6, 9).act(1, 1, least), 8);
    }

    private static void act() {
        DUE.of("Promise 36", "A MOVE of one with x");
        ThirdEvening x = Given.people(1, 3, 10);
        DUE.is("act(0, 0, 5), the first", x.act(0, 0, 5), 8);
        DUE.is("act(9, 0, 5), the last", x.act(9, 0, 5), 17);
        x.go(9, true);
        DUE.is("act(9, 0, 5), GONE or not", x.act(9, 0, 5), 17);
        String before = Given.state(x);
        x.act(3, 2, 5);
        DUE.same("all stands", Given.state(x), before);
    }

    private static void actOfNobody() {
        ThirdEvening x = new ThirdEvening();
        x.person(1, 1, 1, false);
        DUE.of("Promise 36", "0, and no TRACE then: no such one, move");
        int[][] wrong = {{1, 0}, {-1, 0}, {0, 3}, {0, -1}, {Integer.MAX_VALUE, Integer.MIN_VALUE}};
        for (int[] call : wrong) {
            x.act(0, 2, 7);
            DUE.is("trace(0)", x.trace(0), 12);
            DUE.is("act(" + call[0] + ", " + call[1] + ", 7)", x.act(call[0], call[1], 7), 0);
            DUE.is("trace(0) then", x.trace(0), -1);
            DUE.is("status(9) then", x.status(9), 0);
        }
        DUE.same("REFUSALS", Given.refusals(x), "0 0 0 0 0 0 0 ");
    }

    private static void trace() {
        DUE.of(OUTCOME, "THE TRACE: the numbers of the bodies that ran in the latest act(), in the order in which they began; the first 20 are kept");
        ThirdEvening x = new ThirdEvening();
        x.person(6, 0, 0, false);
        x.person(0, 0, 0, false);
        // no act() has more bodies than these eleven
        x.act(0, 2, 1);
        int[] most = {12, 71, 11, 70, 40, 20, 10, 70, 40, 20, 10};
        for (int i = 0; i < most.length; i++) {
            DUE.is("trace(" + i + ")", x.trace(i), most[i]);
        }
        DUE.is("status(9)", x.status(9), 11);
        x.act(1, 1, 1);
        DUE.is("trace(0) of the latest", x.trace(0), 11);
        DUE.is("trace(1) of the latest", x.trace(1), 10);
        DUE.is("trace(2) of the latest", x.trace(2), -1);
        DUE.is("status(9) of the latest", x.status(9), 2);
        DUE.of("Promise 37", "THE TRACE's i-th body");
        DUE.is("trace(1)", x.trace(1), 10);
        DUE.is("trace(1) once more", x.trace(1), 10);
        DUE.of("Promise 37", "NONE: none such");
        int[] none = {-1, 2, 10, 11, 19, 20, 21, Integer.MIN_VALUE, Integer.MAX_VALUE};
        for (int i : none) {
            DUE.is("trace(" + i + ")", x.trace(i), -1);
        }
        DUE.is("trace(0) of a new object", new ThirdEvening().trace(0), -1);
        DUE.same("REFUSALS", Given.refusals(x), "0 0 0 0 0 0 0 ");
    }

    private static void image() {
        ThirdEvening x = new ThirdEvening();
        DUE.of("Promise 39", "-6 there is none");
        DUE.is("restore()", x.restore(), -6);
        DUE.of("Promise 38", "is taken: how many PEOPLE");
        DUE.is("image() of nobody", x.image(), 0);
        for (int i = 0; i < 7; i++) {
            x.person(i, i, 8, i % 2 == 0);
        }
        x.friend(0, 1);
        x.friend(6, 5);
        for (int what = 0; what < 4; what++) {
            x.ask(what, what + 1);
        }
        x.drawn(3);
        x.go(2, true);
        String before = Given.state(x);
        DUE.is("image() of seven", x.image(), 7);
        DUE.same("nothing is changed", Given.state(x), before);
        for (int again = 0; again < 2; again++) {
            x.person(0, 0, 0, false);
            x.friend(0, 7);
            x.friend(6, -1);
            x.seed(99);
            x.go(2, false);
            for (int what = 0; what < 4; what++) {
                x.ask(what, 9);
            }
            x.evenings(9);
            DUE.of("Promise 39", "All is as THE IMAGE has it");
            DUE.is("restore()", x.restore(), 7);
            DUE.same("all is as it was", Given.state(x), before);
            DUE.is("friend(0, 1)", x.friend(0, 1), 1);
            DUE.is("friend(6, 5)", x.friend(6, 5), 5);
        }
    }

    // Each thing that stands in THE IMAGE, changed alone.
    private static void imageOfEach() {
        DUE.of("Promise 38", "THE IMAGE of all");
        for (int which = 0; which < 12; which++) {
            ThirdEvening x = Given.people(1, 1, 2);
            x.friend(0, 1);
            x.evenings(1);
            x.go(1, true);
            x.image();
            String before = Given.state(x) + x.friend(0, 1);
            switch (which) {
                case 0: x.ask(0, 1); break;
                case 1: x.ask(1, 1); break;
                case 2: x.ask(2, 1); break;
                case 3: x.ask(3, 1); break;
                case 4: x.seed(4); break;
                case 5: x.person(0, 0, 0, true); break;
                case 6: x.friend(0, -1); break;
                case 7: x.go(1, false); break;
                case 8: x.go(0, true); break;
                case 9: x.evenings(1); break;
                case 10: Given.text(x, 0, 0, "level 3;rain 3;gone 0"); x.school(0); break;
                default: x.drawn(2);
            }
            DUE.is("it was changed, " + which, before.equals(Given.state(x) + x.friend(0, x.friend(0, -1))) ? 1 : 0, 0);
            DUE.is("restore()", x.restore(), 2);
            DUE.same("as it was, " + which, Given.state(x) + x.friend(0, 1), before);
        }
        // A new IMAGE takes the place of the old one.
        ThirdEvening y = Given.people(0, 0, 3);
        y.image();
        y.person(0, 0, 0, false);
        y.ask(0, 2);
        DUE.is("image(), a new one", y.image(), 4);
        y.ask(0, 3);
        DUE.is("restore() by the new one", y.restore(), 4);
        DUE.is("LEVEL by the new one", y.status(1), 2);
    }

    private static void imageLeavesTheRest() {
        ThirdEvening x = Given.people(0, 0, 1);
        x.image();
        Given.text(x, 0, 0, "bar 99");
        x.school(0);
        x.act(0, 1, 1);
        x.row(9, 0, 0);
        DUE.of("Promise 38", "but SHELVES (and THE IMAGE, REFUSALS, the FAULT, THE TRACE)");
        DUE.is("restore()", x.restore(), 1);
        DUE.is("the FAULT stays", x.fault(), 4);
        DUE.is("the TRACE stays", x.trace(0) * 100 + x.trace(1), 1110);
        DUE.is("bodies stay", x.status(9), 2);
        DUE.is("REFUSALS stay", x.status(11) * 10 + x.status(16), 11);
        DUE.is("a ROW stays", x.element(0, 0), 'b');
        DUE.is("restore() once more", x.restore(), 1);
        x.image();
        DUE.is("the FAULT stays behind image()", x.fault(), 4);
        DUE.is("the TRACE stays behind image()", x.trace(0) * 100 + x.trace(1), 1110);
    }

    private static void restore() {
        DUE.of("Promise 39", "how many PEOPLE");
        for (int count = 0; count <= 10; count++) {
            ThirdEvening x = Given.people(0, 0, count);
            DUE.is("image() of " + count, x.image(), count);
            for (int i = count; i < 10; i++) {
                x.person(6, 9, 20, true);
                x.friend(i, 0);
            }
            // All have COMINGS and are GONE, and but for number 0 are BEHIND and have MISSED, before they are no more.
            x.ask(2, 12);
            x.evenings(1);
            x.ask(2, 1);
            x.evenings(1);
            for (int i = count; i < 10; i++) {
                x.go(i, true);
            }
            Given.text(x, 0, 0, "bar 1");
            x.school(0);
            DUE.is("restore() to " + count, x.restore(), count);
            DUE.is("status(0)", x.status(0), count);
            DUE.is("personOf behind the last", x.personOf(count, 0), -5);
            if (count < 10) {
                Given.text(x, 0, 0, "person 1 2 3 0");
                DUE.is("the next is new, by a text", x.school(0), 1);
                isNew(x, count);
                x.evenings(1);
                x.go(count, true);
                x.restore();
                DUE.is("the next is new", x.person(1, 2, 3, false), count);
                isNew(x, count);
            }
        }
        ThirdEvening y = Given.people(0, 0, 2);
        y.image();
        y.restore();
        y.evenings(24);
        DUE.is("restore()", y.restore(), 2);
        DUE.is("EVENING", y.status(5), 0);
        DUE.is("COMINGS", y.status(7), 0);
    }

    private static void isNew(ThirdEvening x, int person) {
        int[] are = {1, 2, 3, 0, 0, 0, 0, 0};
        for (int what = 0; what < 8; what++) {
            DUE.is("personOf(" + person + ", " + what + ")", x.personOf(person, what), are[what]);
        }
        DUE.is("his FRIEND", x.friend(person, -1), -1);
    }

    private static void restoreShelves() {
        ThirdEvening x = new ThirdEvening();
        x.person(0, 0, 1, false);
        x.person(0, 0, 2, false);
        x.show(3, 1);
        x.image();
        x.person(0, 0, 3, false);
        x.show(0, 0);
        x.show(1, 2);
        x.show(7, 2);
        x.row(2, 1, 4);
        x.row(3, 2, 4);
        x.show(4, 1);
        x.evenings(2);
        DUE.of("Promise 39", "SHELVES with PEOPLE hold those of these numbers, or NOTHING");
        DUE.is("restore()", x.restore(), 2);
        int[] holds = {0, -1, 101, 102, 1, -1, -1, -1};
        for (int s = 0; s < 8; s++) {
            DUE.is("holds(" + s + ")", x.holds(s), holds[s]);
        }
        DUE.is("says(1, 0)", x.says(1, 0), -3);
        DUE.is("says(4, 0), of THE IMAGE", x.says(4, 0), 2);
        DUE.is("person", x.person(1, 5, 9, true), 2);
        DUE.is("holds(1) still", x.holds(1), -1);
        ThirdEvening y = new ThirdEvening();
        y.image();
        y.person(0, 0, 1, false);
        y.show(0, 0);
        DUE.is("restore() to nobody", y.restore(), 0);
        DUE.is("holds(0)", y.holds(0), -1);
    }

    private static void status() {
        DUE.of("Promise 40", "How many: 0 PEOPLE, 1 LEVEL, 2 RAIN, 3 CHAIRS, 4 BAR, 5 EVENING, 6 who are GONE, 7 COMINGS together, 8 SEED, 9 bodies that ran in the latest act() (all, kept or not)");
        ThirdEvening x = new ThirdEvening();
        x.person(0, 0, 8, false);
        x.person(1, 0, 8, false);
        x.person(2, 9, 0, false);
        x.ask(0, 7);
        x.ask(1, 1);
        x.ask(2, 6);
        x.ask(3, 2);
        x.evenings(2);
        x.seed(77);
        x.act(0, 2, 0);
        int[] is = {3, 7, 1, 6, 2, 2, 1, 4, 77, 4};
        for (int what = 0; what < is.length; what++) {
            DUE.is("status(" + what + ")", x.status(what), is[what]);
        }
        x.go(0, true);
        DUE.is("status(6), one more", x.status(6), 2);
        DUE.is("status(7), of the GONE too", x.status(7), 4);
        DUE.of("Promise 40", "NONE for another what");
        int[] other = {10, 18, -1, -11, 110, Integer.MIN_VALUE, Integer.MAX_VALUE};
        for (int what : other) {
            DUE.is("status(" + what + ")", x.status(what), -1);
        }
    }

    private static void statusCounts() {
        DUE.of("Promise 40", "11 to 17: REFUSALS -1 to -7");
        ThirdEvening x = Given.people(0, 0, 10);
        x.row(0, 0, 1);
        x.show(1, 0);
        int[] counts = new int[8];
        for (int round = 0; round < 3; round++) {
            for (int no = 1; no <= 7; no++) {
                int times = no + round;
                for (int i = 0; i < times; i++) {
                    refuse(x, no, i);
                }
                counts[no] += times;
                for (int what = 1; what <= 7; what++) {
                    DUE.is("status(" + (10 + what) + ")", x.status(10 + what), counts[what]);
                }
            }
        }
    }

    // Those that answer another number are counted as those that don't.
    private static void refuse(ThirdEvening x, int no, int i) {
        switch (no) {
            case 1: DUE.is("refused", i % 2 == 0 ? x.will(10) : x.friend(10, 0), i % 2 == 0 ? -1001 : -11); break;
            case 2: DUE.is("refused", i % 2 == 0 ? x.judge(1, 0) : x.set(1, 0, 0), i % 2 == 0 ? -12 : -2); break;
            case 3: DUE.is("refused", i % 2 == 0 ? x.judge(2, 0) : x.school(2), i % 2 == 0 ? -13 : -3); break;
            case 4: DUE.is("refused", i % 2 == 0 ? x.judge(0, -1) : x.row(0, 0, -1), i % 2 == 0 ? -14 : -4); break;
            case 5: DUE.is("refused", i % 2 == 0 ? x.ring(0, 2) : x.set(0, 1, 0), i % 2 == 0 ? -15 : -5); break;
            case 6: DUE.is("refused", i % 2 == 0 ? x.price(25) : x.worst(0, 0), i % 2 == 0 ? -1006 : -16); break;
            default: DUE.is("refused", i % 2 == 0 ? x.row(0, 0, 161) : x.person(0, 0, 0, true), -7);
        }
    }
}
