import java.util.function.ToIntFunction;

/**
 * What is refused, promise by promise: the number that is answered, that it is counted, and that nothing else changes.
 * Where several REFUSALS fit, the first does: such calls stand under the one that is due.
 */
final class RefusalsTest {
    private static final Due DUE = new Due("RefusalsTest");
    private static final String REFUSALS = "REFUSALS";
    private static final int LEAST = Integer.MIN_VALUE;
    private static final int MOST = Integer.MAX_VALUE;

    public static void main(String[] args) {
        byNumbers();
        row();
        set();
        copy();
        copyBeyond();
        show();
        says();
        person();
        friend();
        ask();
        go();
        personOf();
        school();
        will();
        tonight();
        ahead();
        worst();
        ones();
        ring();
        stretches();
        chain();
        keeps();
        friends();
        judge();
        restore();
        nothingIsRefused();
        theLatestCalls();
        DUE.end();
    }

    // What is answered is below 0 by its number, and by 10 or 1000 more in some calls.
    private static void refused(int answer, ToIntFunction<ThirdEvening> call) {
        refused(answer, true, call);
    }

    private static void refused(int answer, boolean withImage, ToIntFunction<ThirdEvening> call) {
        ThirdEvening x = Given.scene(withImage);
        ThirdEvening y = Given.scene(withImage);
        DUE.is("the refused call", call.applyAsInt(x), answer);
        int no = -answer % 10;
        for (int what = 11; what <= 17; what++) {
            DUE.is("status(" + what + ") behind " + answer, x.status(what), y.status(what) + (what == 10 + no ? 1 : 0));
        }
        DUE.same("all there is behind " + answer, Given.everything(x), Given.everything(y));
        x.restore();
        y.restore();
        DUE.same("THE IMAGE behind " + answer, Given.state(x), Given.state(y));
    }

    private static void byNumbers() {
        DUE.of(REFUSALS, "(the call answers the number; nothing changes but how many there were; the first that fits, in this order)");
        refused(-1, x -> x.copy(8, 2, -1, -1, -1));
        refused(-2, x -> x.copy(2, 3, -1, -1, -1));
        refused(-3, x -> x.copy(0, 3, -1, -1, -1));
        refused(-4, x -> x.copy(0, 4, -1, -1, -1));
        refused(-5, x -> x.copy(0, 4, -1, -1, 1));
        refused(-6, x -> x.person(0, 10, 21, true));
        refused(-7, x -> x.person(0, 0, 0, true));
        DUE.of(REFUSALS, "-1 NOBODY: no such SHELF, PERSON, KIND");
        refused(-1, x -> x.set(8, 0, 0));
        refused(-1, x -> x.go(10, true));
        refused(-1, x -> x.person(7, 0, 0, true));
        DUE.of(REFUSALS, "-2 OTHER: a SHELF that holds a PERSON where a ROW is wanted, or the other way about, ROWS of two SORTS, one who isn't of the KIND wanted, or one under it");
        refused(-2, x -> x.set(2, 0, 0));
        refused(-2, x -> x.says(0, 0));
        refused(-2, x -> x.copy(0, 1, 0, 0, 1));
        refused(-2, x -> x.says(2, 1));
        DUE.of(REFUSALS, "-3 NOTHING: a SHELF that holds NOTHING");
        refused(-3, x -> x.set(3, 0, 0));
        refused(-3, x -> x.says(3, 0));
        DUE.of(REFUSALS, "-4 BELOW: a size below 0");
        refused(-4, x -> x.row(0, 0, -1));
        refused(-4, x -> x.copy(0, 4, 0, 0, LEAST));
        DUE.of(REFUSALS, "-5 BEYOND: an element that isn't there; nothing such to be told of");
        refused(-5, x -> x.set(0, 3, 0));
        refused(-5, x -> x.personOf(10, 0));
        refused(-5, x -> x.tonight(3));
        DUE.of(REFUSALS, "-6 WRONG: a number that may not be, a FAULT, what can't be as things stand");
        refused(-6, x -> x.ask(0, 21));
        refused(-6, x -> x.school(5));
        refused(-6, x -> x.keeps(9));
        DUE.of(REFUSALS, "-7 ROOM: more than may be");
        refused(-7, x -> x.row(0, 0, 161));
        refused(-7, x -> x.person(6, 9, 20, false));
    }

    private static void row() {
        int[] noShelf = {-1, 8, LEAST, MOST};
        DUE.of("Promise 2", "-1");
        for (int s : noShelf) {
            refused(-1, x -> x.row(s, 0, 1));
        }
        refused(-1, x -> x.row(8, 4, -1));
        refused(-1, x -> x.row(8, 4, 161));
        DUE.of("Promise 2", "-4");
        refused(-4, x -> x.row(0, 0, -1));
        refused(-4, x -> x.row(0, 0, LEAST));
        refused(-4, x -> x.row(3, 4, -1));
        refused(-4, x -> x.row(2, -1, -1));
        DUE.of("Promise 2", "-6 SORT");
        refused(-6, x -> x.row(0, -1, 1));
        refused(-6, x -> x.row(0, 4, 0));
        refused(-6, x -> x.row(2, LEAST, 1));
        refused(-6, x -> x.row(3, MOST, 161));
        DUE.of("Promise 2", "-7 n above 160");
        refused(-7, x -> x.row(0, 0, 161));
        refused(-7, x -> x.row(2, 3, 161));
        refused(-7, x -> x.row(3, 2, MOST));
    }

    private static void set() {
        int[] noShelf = {-1, 8, LEAST, MOST};
        DUE.of("Promise 3", "-1");
        for (int s : noShelf) {
            refused(-1, x -> x.set(s, 0, 1));
            refused(-1, x -> x.set(s, -1, 1));
        }
        DUE.of("Promise 3", "-2");
        refused(-2, x -> x.set(2, 0, 1));
        refused(-2, x -> x.set(7, -1, 1));
        DUE.of("Promise 3", "-3");
        refused(-3, x -> x.set(3, 0, 1));
        refused(-3, x -> x.set(3, -1, 1));
        DUE.of("Promise 3", "-5");
        refused(-5, x -> x.set(0, -1, 1));
        refused(-5, x -> x.set(0, 3, 1));
        refused(-5, x -> x.set(4, 160, 1));
        refused(-5, x -> x.set(1, 2, 1));
        refused(-5, x -> x.set(6, LEAST, 1));
        refused(-5, x -> x.set(6, MOST, 1));
    }

    private static void copy() {
        int[] noShelf = {-1, 8, LEAST, MOST};
        DUE.of("Promise 4", "-1");
        for (int s : noShelf) {
            refused(-1, x -> x.copy(s, 0, 0, 0, 1));
            refused(-1, x -> x.copy(0, s, 0, 0, 1));
        }
        refused(-1, x -> x.copy(8, 2, 0, 0, 1));
        refused(-1, x -> x.copy(3, 8, 0, 0, -1));
        DUE.of("Promise 4", "-2 also of two SORTS (when both hold something)");
        refused(-2, x -> x.copy(2, 0, 0, 0, 1));
        refused(-2, x -> x.copy(0, 2, 0, 0, 1));
        refused(-2, x -> x.copy(2, 7, 0, 0, 1));
        refused(-2, x -> x.copy(2, 3, 0, 0, 1));
        refused(-2, x -> x.copy(3, 2, 0, 0, 1));
        refused(-2, x -> x.copy(0, 1, 0, 0, 1));
        refused(-2, x -> x.copy(6, 0, 0, 0, 1));
        refused(-2, x -> x.copy(0, 1, 0, 0, -1));
        refused(-2, x -> x.copy(0, 6, 9, 9, 0));
        DUE.of("Promise 4", "-3 either");
        refused(-3, x -> x.copy(0, 3, 0, 0, 1));
        refused(-3, x -> x.copy(3, 0, 0, 0, 1));
        refused(-3, x -> x.copy(3, 3, 0, 0, 1));
        refused(-3, x -> x.copy(1, 3, 0, 0, -1));
        refused(-3, x -> x.copy(3, 6, -1, -1, 0));
        DUE.of("Promise 4", "-4 n");
        refused(-4, x -> x.copy(0, 4, 0, 0, -1));
        refused(-4, x -> x.copy(0, 4, 0, 0, LEAST));
        refused(-4, x -> x.copy(0, 4, -1, 161, -1));
        refused(-4, x -> x.copy(0, 4, 2, 3, -2));
    }

    private static void copyBeyond() {
        DUE.of("Promise 4", "-5 i or j below 0, or an end that isn't there");
        refused(-5, x -> x.copy(0, 4, -1, 0, 1));
        refused(-5, x -> x.copy(0, 4, 0, -1, 1));
        refused(-5, x -> x.copy(0, 4, -1, 0, 0));
        refused(-5, x -> x.copy(0, 4, 0, -1, 0));
        refused(-5, x -> x.copy(0, 4, LEAST, 0, 1));
        refused(-5, x -> x.copy(0, 4, 0, LEAST, 1));
        refused(-5, x -> x.copy(0, 4, 3, 0, 1));
        refused(-5, x -> x.copy(0, 4, 2, 0, 2));
        refused(-5, x -> x.copy(0, 4, 0, 0, 4));
        refused(-5, x -> x.copy(4, 0, 0, 3, 1));
        refused(-5, x -> x.copy(4, 0, 0, 2, 2));
        refused(-5, x -> x.copy(4, 0, 0, 0, 4));
        refused(-5, x -> x.copy(0, 4, 4, 0, 0));
        refused(-5, x -> x.copy(4, 0, 0, 4, 0));
        refused(-5, x -> x.copy(4, 4, 1, 0, 160));
        refused(-5, x -> x.copy(4, 4, 0, 1, 160));
        refused(-5, x -> x.copy(0, 4, MOST, 0, 1));
        refused(-5, x -> x.copy(0, 4, 0, MOST, 1));
        refused(-5, x -> x.copy(0, 4, 1, 1, MOST));
        refused(-5, x -> x.copy(0, 4, MOST, MOST, MOST));
    }

    private static void show() {
        int[] noShelf = {-1, 8, LEAST, MOST};
        DUE.of("Promise 6", "-1");
        for (int s : noShelf) {
            refused(-1, x -> x.show(s, 0));
            refused(-1, x -> x.show(s, -1));
        }
        int[] noOne = {-2, 10, LEAST, MOST};
        for (int person : noOne) {
            refused(-1, x -> x.show(0, person));
            refused(-1, x -> x.show(2, person));
        }
    }

    private static void says() {
        int[] no = {-1, 8, LEAST, MOST};
        DUE.of("Promise 8", "-1 SHELF, KIND");
        for (int s : no) {
            refused(-1, x -> x.says(s, 0));
            refused(-1, x -> x.says(2, s));
        }
        refused(-1, x -> x.says(2, 7));
        refused(-1, x -> x.says(0, 7));
        refused(-1, x -> x.says(3, -1));
        DUE.of("Promise 8", "-2 also one of another KIND");
        int[] notSlow = {1, 3, 5, 6};
        for (int kind : notSlow) {
            refused(-2, x -> x.says(2, kind));
        }
        for (int kind = 0; kind < 7; kind++) {
            int taken = kind;
            refused(-2, x -> x.says(0, taken));
        }
        refused(-2, x -> x.says(7, 2));
        DUE.of("Promise 8", "-3");
        for (int kind = 0; kind < 7; kind++) {
            int taken = kind;
            refused(-3, x -> x.says(3, taken));
        }
    }

    private static void person() {
        int[] noKind = {-1, 7, LEAST, MOST};
        DUE.of("Promise 9", "-1 KIND");
        for (int kind : noKind) {
            refused(-1, x -> x.person(kind, 0, 0, true));
            refused(-1, x -> x.person(kind, 10, 21, false));
        }
        DUE.of("Promise 9", "-6");
        int[][] aAndOwn = {{-1, 0}, {10, 0}, {0, -1}, {0, 21}, {LEAST, 0}, {MOST, 0}, {0, LEAST}, {0, MOST}, {10, 21}};
        for (int[] one : aAndOwn) {
            refused(-6, x -> x.person(0, one[0], one[1], true));
            ThirdEvening few = Given.people(0, 0, 1);
            DUE.is("person, where there is room", few.person(0, one[0], one[1], true), -6);
            DUE.is("status(0)", few.status(0), 1);
        }
        DUE.of("Promise 9", "-7");
        refused(-7, x -> x.person(0, 0, 0, true));
        refused(-7, x -> x.person(6, 9, 20, false));
    }

    private static void friend() {
        int[] noOne = {10, LEAST, MOST};
        DUE.of("Promise 10", "-11");
        for (int person : noOne) {
            refused(-11, x -> x.friend(person, 0));
            refused(-11, x -> x.friend(0, person));
            refused(-11, x -> x.friend(person, person));
            refused(-11, x -> x.friend(person, -1));
        }
        refused(-11, x -> x.friend(-1, 0));
        refused(-11, x -> x.friend(-1, -1));
        refused(-11, x -> x.friend(0, -2));
        DUE.of("Promise 10", "-16 he himself (counted as -1, -6)");
        for (int i = 0; i < 10; i++) {
            int person = i;
            refused(-16, x -> x.friend(person, person));
        }
    }

    private static void ask() {
        DUE.of("Promise 11", "-6");
        int[][] no = {{0, -1}, {0, 21}, {1, -1}, {1, 10}, {2, 0}, {2, 13}, {3, -1}, {3, 11}, {-1, 5}, {4, 5}, {LEAST, 5}, {MOST, 5}};
        for (int[] one : no) {
            refused(-6, x -> x.ask(one[0], one[1]));
        }
        for (int i = 0; i < 4; i++) {
            int what = i;
            refused(-6, x -> x.ask(what, LEAST));
            refused(-6, x -> x.ask(what, MOST));
        }
    }

    private static void go() {
        int[] noOne = {-1, 10, LEAST, MOST};
        DUE.of("Promise 12", "-1");
        for (int person : noOne) {
            refused(-1, x -> x.go(person, true));
            refused(-1, x -> x.go(person, false));
        }
    }

    private static void personOf() {
        int[] noOne = {-1, 10, LEAST, MOST};
        DUE.of("Promise 13", "-5: no such one, another what");
        for (int person : noOne) {
            refused(-5, x -> x.personOf(person, 0));
            refused(-5, x -> x.personOf(person, 8));
            refused(-5, x -> x.personOf(0, person < 0 ? person : person - 2));
        }
        refused(-5, x -> x.personOf(0, 8));
    }

    private static void school() {
        int[] noShelf = {-1, 8, LEAST, MOST};
        DUE.of("Promise 14", "-1");
        for (int s : noShelf) {
            refused(-1, x -> x.school(s));
        }
        DUE.of("Promise 14", "-2");
        refused(-2, x -> x.school(2));
        refused(-2, x -> x.school(7));
        DUE.of("Promise 14", "-3");
        refused(-3, x -> x.school(3));
        DUE.of("Promise 14", "-6 a FAULT");
        refused(-6, x -> x.school(5));
    }

    private static void will() {
        int[] noOne = {-1, 10, LEAST, MOST};
        DUE.of("Promise 16", "-1001 (counted as -1)");
        for (int person : noOne) {
            refused(-1001, x -> x.will(person));
        }
    }

    private static void tonight() {
        int[] other = {-1, 3, LEAST, MOST};
        DUE.of("Promise 17", "-5 another what");
        for (int what : other) {
            refused(-5, x -> x.tonight(what));
        }
    }

    private static void ahead() {
        int[] other = {-1, 3, LEAST, MOST};
        DUE.of("Promise 18", "-5 another what");
        for (int what : other) {
            refused(-5, x -> x.ahead(1, what));
            refused(-5, x -> x.ahead(25, what));
        }
        int[] no = {-1, 25, LEAST, MOST};
        DUE.of("Promise 18", "-6");
        for (int n : no) {
            for (int i = 0; i < 3; i++) {
                int what = i;
                refused(-6, x -> x.ahead(n, what));
            }
        }
    }

    private static void worst() {
        int[] other = {-1, 2, LEAST, MOST};
        DUE.of("Promise 19", "-15 another what");
        for (int what : other) {
            refused(-15, x -> x.worst(1, what));
            refused(-15, x -> x.worst(0, what));
        }
        int[] no = {-1, 0, 25, LEAST, MOST};
        DUE.of("Promise 19", "-16 (counted as -5, -6)");
        for (int n : no) {
            refused(-16, x -> x.worst(n, 0));
            refused(-16, x -> x.worst(n, 1));
        }
    }

    private static void ones() {
        int[] noOne = {-1, 10, LEAST, MOST};
        DUE.of("Promise 20", "-1");
        for (int person : noOne) {
            refused(-1, x -> x.ones(person, 1, 0));
            refused(-1, x -> x.ones(person, 25, 2));
        }
        int[] other = {-1, 2, LEAST, MOST};
        DUE.of("Promise 20", "-5 another what");
        for (int what : other) {
            refused(-5, x -> x.ones(0, 1, what));
            refused(-5, x -> x.ones(0, 25, what));
        }
        int[] no = {-1, 25, LEAST, MOST};
        DUE.of("Promise 20", "-6");
        for (int n : no) {
            refused(-6, x -> x.ones(0, n, 0));
            refused(-6, x -> x.ones(9, n, 1));
        }
    }

    private static void ring() {
        int[] other = {-1, 2, LEAST, MOST};
        DUE.of("Promise 21", "-15 another what");
        for (int what : other) {
            refused(-15, x -> x.ring(1, what));
            refused(-15, x -> x.ring(4, what));
        }
        int[] no = {-1, 4, LEAST, MOST};
        DUE.of("Promise 21", "-16 k not 0 to 3 (counted as -5, -6)");
        for (int k : no) {
            refused(-16, x -> x.ring(k, 0));
            refused(-16, x -> x.ring(k, 1));
        }
    }

    private static void stretches() {
        int[] no = {-1, 25, LEAST, MOST};
        DUE.of("Promise 22", "-6");
        for (int n : no) {
            refused(-6, x -> x.begin(n));
        }
        DUE.of("Promise 23", "-6");
        for (int n : no) {
            refused(-6, x -> x.room(n));
        }
        DUE.of("Promise 24", "-6");
        for (int n : no) {
            refused(-6, x -> x.take(n));
        }
        DUE.of("Promise 25", "-1006 (counted as -6)");
        for (int n : no) {
            refused(-1006, x -> x.price(n));
        }
        DUE.of("Promise 26", "-6");
        for (int n : no) {
            refused(-6, x -> x.lost(n));
        }
        DUE.of("Promise 33", "-6");
        refused(-6, x -> x.evenings(0));
        for (int n : no) {
            refused(-6, x -> x.evenings(n));
        }
        DUE.of("Promise 34", "-6");
        refused(-6, x -> x.drawn(0));
        for (int n : no) {
            refused(-6, x -> x.drawn(n));
        }
    }

    private static void chain() {
        int[] noOne = {-1, 10, LEAST, MOST};
        DUE.of("Promise 28", "-1");
        for (int person : noOne) {
            refused(-1, x -> x.chain(person));
        }
    }

    private static void keeps() {
        int[] noOne = {-1, 10, LEAST, MOST};
        DUE.of("Promise 29", "-1");
        for (int person : noOne) {
            refused(-1, x -> x.keeps(person));
        }
        DUE.of("Promise 29", "-6 he is GONE");
        refused(-6, x -> x.keeps(9));
    }

    private static void friends() {
        int[] no = {-1, 10, LEAST, MOST};
        DUE.of("Promise 31", "-1");
        for (int one : no) {
            refused(-1, x -> x.friends(one, 1, 0));
            refused(-1, x -> x.friends(0, 1, one));
            refused(-1, x -> x.friends(2, -1, one));
            refused(-1, x -> x.friends(3, -1, one));
        }
        refused(-1, x -> x.friends(8, -1, 0));
        DUE.of("Promise 31", "-2");
        refused(-2, x -> x.friends(2, 0, 0));
        refused(-2, x -> x.friends(7, -1, 0));
        refused(-2, x -> x.friends(7, 25, 9));
        DUE.of("Promise 31", "-3");
        refused(-3, x -> x.friends(3, 0, 0));
        refused(-3, x -> x.friends(3, -1, 0));
        refused(-3, x -> x.friends(3, 25, 0));
        DUE.of("Promise 31", "-4 n");
        refused(-4, x -> x.friends(0, -1, 0));
        refused(-4, x -> x.friends(4, LEAST, 0));
        DUE.of("Promise 31", "-5 fewer elements");
        refused(-5, x -> x.friends(0, 4, 0));
        refused(-5, x -> x.friends(6, 2, 0));
        refused(-5, x -> x.friends(0, 25, 0));
        refused(-5, x -> x.friends(4, 161, 0));
        refused(-5, x -> x.friends(4, MOST, 0));
        DUE.of("Promise 31", "-6 n above 24");
        refused(-6, x -> x.friends(4, 25, 0));
        refused(-6, x -> x.friends(4, 160, 9));
    }

    private static void judge() {
        int[] noShelf = {-1, 8, LEAST, MOST};
        DUE.of("Promise 32", "-11");
        for (int s : noShelf) {
            refused(-11, x -> x.judge(s, 1));
            refused(-11, x -> x.judge(s, -1));
        }
        DUE.of("Promise 32", "-12");
        refused(-12, x -> x.judge(2, 0));
        refused(-12, x -> x.judge(7, -1));
        refused(-12, x -> x.judge(7, 25));
        DUE.of("Promise 32", "-13");
        refused(-13, x -> x.judge(3, 0));
        refused(-13, x -> x.judge(3, -1));
        refused(-13, x -> x.judge(3, 25));
        DUE.of("Promise 32", "-14 n");
        refused(-14, x -> x.judge(0, -1));
        refused(-14, x -> x.judge(4, LEAST));
        DUE.of("Promise 32", "-15 fewer elements");
        refused(-15, x -> x.judge(0, 4));
        refused(-15, x -> x.judge(6, 2));
        refused(-15, x -> x.judge(0, 25));
        refused(-15, x -> x.judge(4, 161));
        refused(-15, x -> x.judge(4, MOST));
        DUE.of("Promise 32", "-16 n above 24 (counted as -1 to -6)");
        refused(-16, x -> x.judge(4, 25));
        refused(-16, x -> x.judge(4, 160));
    }

    private static void restore() {
        DUE.of("Promise 39", "-6 there is none");
        refused(-6, false, x -> x.restore());
    }

    private static void nothingIsRefused() {
        DUE.of("Promise 5", "(nothing is refused)");
        ThirdEvening x = Given.scene(true);
        ThirdEvening y = Given.scene(true);
        int[] hard = {-1, -2, 8, 10, 160, LEAST, MOST};
        for (int v : hard) {
            DUE.is("element(" + v + ", " + v + ")", x.element(v, v), 0);
            DUE.is("holds(" + v + ")", x.holds(v), -1);
            DUE.is("act(" + v + ", " + v + ", 0)", x.act(v, v, 0), 0);
            DUE.is("trace(" + v + ")", x.trace(v), -1);
            DUE.is("status(" + v + ")", x.status(v), v == 8 ? y.status(8) : -1);
            x.fault();
            x.pairs();
            x.keep();
            x.image();
            x.seed(x.seed(v));
        }
        DUE.same("REFUSALS", Given.refusals(x), Given.refusals(y));
    }

    private static void theLatestCalls() {
        DUE.of("What it is", "An object is used for at most 512 calls after it has been made");
        ThirdEvening x = new ThirdEvening();
        for (int i = 0; i < 511; i++) {
            x.keeps(0);
        }
        DUE.is("status(11), the 512th call", x.status(11), 511);
        ThirdEvening y = Given.people(0, 0, 1);
        for (int i = 2; i < 512; i++) {
            y.evenings(24);
        }
        DUE.is("status(5), the 512th call", y.status(5), 510 * 24);
        ThirdEvening z = new ThirdEvening();
        for (int i = 1; i < 512; i++) {
            z.row(i % 8, 3, 160);
        }
        DUE.is("set(7, 159), the 512th call", z.set(7, 159, -1), 1);
    }
}
