import java.util.function.ToIntFunction;

/** Promises 18 to 26: what comes of EVENINGS from now on. What is refused is in RefusalsTest. */
final class AheadTest {
    private static final Due DUE = new Due("AheadTest");
    private static final String OUTCOME = "WHAT COMES OF IT";

    public static void main(String[] args) {
        nothingIsChanged();
        ahead();
        fromNoneToTheMost();
        asAllElseStands();
        worst();
        shut();
        ones();
        ringOne();
        ringSeveral();
        ringFewer();
        begin();
        beginAtTheEnds();
        room();
        take();
        price();
        priceBelow0();
        priceOfOneWhoMissedTwo();
        lost();
        byTheOtherCalls();
        DUE.end();
    }

    private static void unchanged(String call, ToIntFunction<ThirdEvening> asked) {
        ThirdEvening x = Given.scene(true);
        ThirdEvening y = Given.scene(true);
        asked.applyAsInt(x);
        DUE.same("all there is behind " + call, Given.everything(x), Given.everything(y));
        x.restore();
        y.restore();
        DUE.same("THE IMAGE behind " + call, Given.state(x), Given.state(y));
        DUE.same("REFUSALS behind " + call, Given.refusals(x), Given.refusals(y));
    }

    private static void nothingIsChanged() {
        DUE.of(OUTCOME, "(nothing is changed)");
        unchanged("element", x -> (int) x.element(0, 1));
        unchanged("holds", x -> x.holds(2));
        unchanged("says", x -> x.says(2, 2));
        unchanged("personOf", x -> x.personOf(3, 4));
        unchanged("fault", x -> x.fault());
        unchanged("will", x -> x.will(4));
        for (int i = 0; i < 3; i++) {
            int what = i;
            unchanged("tonight", x -> x.tonight(what));
            unchanged("ahead", x -> x.ahead(24, what));
        }
        for (int i = 0; i < 2; i++) {
            int what = i;
            unchanged("worst", x -> x.worst(24, what));
            unchanged("ones", x -> x.ones(3, 24, what));
            unchanged("ring", x -> x.ring(3, what));
        }
        unchanged("begin", x -> x.begin(24));
        unchanged("room", x -> x.room(24));
        unchanged("take", x -> x.take(24));
        unchanged("price", x -> x.price(24));
        unchanged("lost", x -> x.lost(24));
        unchanged("pairs", x -> x.pairs());
        unchanged("chain", x -> x.chain(2));
        unchanged("keeps", x -> x.keeps(3));
        unchanged("keep", x -> x.keep());
        unchanged("friends", x -> x.friends(4, 24, 2));
        unchanged("judge", x -> x.judge(4, 24));
        unchanged("trace", x -> x.trace(1));
        unchanged("status", x -> x.status(9));
    }

    // One CHAIR: number 0 has it, 1 is GONE behind two EVENINGS, 2, who PAID, behind three.
    private static ThirdEvening oneChair() {
        ThirdEvening x = Given.people(0, 0, 2);
        x.person(0, 0, 8, true);
        x.ask(2, 1);
        return x;
    }

    private static void ahead() {
        ThirdEvening x = oneChair();
        DUE.of(OUTCOME, "how many aren't GONE then; how many were SEATED, TURNED, all EVENINGS together");
        int[] left = {3, 3, 2, 1, 1};
        int[] turned = {0, 2, 4, 5, 5};
        for (int n = 0; n < 5; n++) {
            DUE.is("ahead(" + n + ", 0)", x.ahead(n, 0), left[n]);
            DUE.is("ahead(" + n + ", 1)", x.ahead(n, 1), n);
            DUE.is("ahead(" + n + ", 2)", x.ahead(n, 2), turned[n]);
        }
        DUE.of("Promise 18", "In n EVENINGS: how many aren't GONE (what 0), SEATED (1), TURNED (2)");
        int[] are = {1, 24, 5};
        ThirdEvening nobody = new ThirdEvening();
        for (int what = 0; what < 3; what++) {
            DUE.is("ahead(24, " + what + ")", x.ahead(24, what), are[what]);
            DUE.is("ahead(24, " + what + ") of nobody", nobody.ahead(24, what), 0);
        }
        x.go(0, true);
        DUE.is("ahead(0, 0), one GONE already", x.ahead(0, 0), 2);
    }

    private static void fromNoneToTheMost() {
        DUE.of(OUTCOME, "In n EVENINGS (0 to 24) from now on");
        ThirdEvening x = Given.people(0, 0, 1);
        for (int i = 0; i < 2; i++) {
            DUE.is("ahead(0, 1)", x.ahead(0, 1), 0);
            DUE.is("ahead(1, 1)", x.ahead(1, 1), 1);
            DUE.is("ahead(24, 1)", x.ahead(24, 1), 24);
            DUE.is("ones(0, 0, 0)", x.ones(0, 0, 0), x.status(7));
            DUE.is("ones(0, 24, 0)", x.ones(0, 24, 0), x.status(7) + 24);
            x.evenings(5);
        }
        // The FAN, a 9, plays on EVENINGS 11 and 22, and on 33, which is the 24th from 10 on.
        ThirdEvening y = Given.people(5, 9, 1);
        y.ask(0, 20);
        y.evenings(10);
        DUE.is("ahead(23, 1)", y.ahead(23, 1), 21);
        DUE.is("ahead(24, 1)", y.ahead(24, 1), 21);
        int[] no = {-1, 25, Integer.MIN_VALUE, Integer.MAX_VALUE};
        for (int n : no) {
            DUE.is("ahead(" + n + ", 0)", x.ahead(n, 0), -6);
            DUE.is("ones(0, " + n + ", 0)", x.ones(0, n, 0), -6);
            DUE.is("begin(" + n + ")", x.begin(n), -6);
            DUE.is("room(" + n + ")", x.room(n), -6);
            DUE.is("take(" + n + ")", x.take(n), -6);
            DUE.is("price(" + n + ")", x.price(n), -1006);
            DUE.is("lost(" + n + ")", x.lost(n), -6);
        }
        DUE.is("status(16)", x.status(16), 28);
        int[] may = {0, 24};
        for (int n : may) {
            DUE.is("begin(" + n + ")", x.begin(n), 0);
            DUE.is("room(" + n + ")", x.room(n), 1);
            DUE.is("take(" + n + ")", x.take(n), 1);
            DUE.is("price(" + n + ")", x.price(n), 0);
            DUE.is("lost(" + n + ")", x.lost(n), 0);
        }
        DUE.is("status(16) still", x.status(16), 28);
    }

    private static void asAllElseStands() {
        DUE.of(OUTCOME, "as LEVEL, RAIN and all else stand");
        ThirdEvening x = Given.shy(1, 3);
        DUE.is("ahead(24, 1), WILL 0", x.ahead(24, 1), 0);
        x.ask(1, 2);
        // WILL 1 till OWN is 10, two EVENINGS on
        DUE.is("ahead(24, 1), WILL 1", x.ahead(24, 1), 2);
        x.ask(0, 20);
        DUE.is("ahead(24, 1), LEVEL 20", x.ahead(24, 1), 0);
        x.ask(0, 10);
        // strain 1 at first, so that he doesn't begin
        DUE.is("ahead(24, 1), LEVEL 10", x.ahead(24, 1), 0);
        x.ask(0, 9);
        DUE.is("ahead(24, 1), LEVEL 9", x.ahead(24, 1), 3);
        x.ask(1, 0);
        x.ask(2, 1);
        x.evenings(2);
        // OWN 10, and 3 less half of how far 9 is below OWN is above 0 till OWN is 15
        DUE.is("ahead(24, 1), RAIN 0", x.ahead(24, 1), 5);
    }

    // The fan, a 1, stays away on EVENINGS 0, 3, 6, ..; number 0 comes on all.
    private static ThirdEvening withFan() {
        ThirdEvening x = new ThirdEvening();
        x.person(0, 0, 8, false);
        x.person(5, 1, 8, false);
        return x;
    }

    private static void worst() {
        ThirdEvening x = withFan();
        DUE.of(OUTCOME, "WORST: on which (0 on) fewest are SEATED, of several the first");
        DUE.is("worst(1, 0)", x.worst(1, 0), 0);
        DUE.is("worst(24, 0)", x.worst(24, 0), 0);
        x.evenings(1);
        DUE.is("worst(1, 0), two SEATED", x.worst(1, 0), 0);
        DUE.is("worst(2, 0), two on both", x.worst(2, 0), 0);
        DUE.is("worst(3, 0), told from now on", x.worst(3, 0), 2);
        DUE.is("worst(24, 0), of several the first", x.worst(24, 0), 2);
        x.evenings(1);
        DUE.is("worst(24, 0)", x.worst(24, 0), 1);
        // FAN, a 9: EVENINGS 0, 11, 22, 33
        ThirdEvening y = Given.people(5, 9, 1);
        y.ask(0, 20);
        y.evenings(10);
        DUE.is("worst(24, 0) of one FAN", y.worst(24, 0), 1);
        y.evenings(2);
        DUE.is("worst(24, 0) of one FAN later", y.worst(24, 0), 10);
        DUE.is("worst(10, 0) ahead of that", y.worst(10, 0), 0);
        DUE.is("worst(24, 0) of nobody", new ThirdEvening().worst(24, 0), 0);
        // No CHAIR is free: as many are SEATED, come who may.
        ThirdEvening z = withFan();
        z.ask(2, 1);
        z.evenings(1);
        DUE.is("worst(24, 0) by SEATED, not by COMING", z.worst(24, 0), 0);
    }

    private static void shut() {
        ThirdEvening x = withFan();
        DUE.of(OUTCOME, "SHUT: the first on which fewer than BAR are SEATED; NONE");
        x.ask(3, 2);
        DUE.is("worst(24, 1) at once", x.worst(24, 1), 0);
        x.evenings(1);
        DUE.is("worst(2, 1), as many as BAR", x.worst(2, 1), -1);
        DUE.is("worst(3, 1), told from now on", x.worst(3, 1), 2);
        DUE.is("worst(24, 1), the first", x.worst(24, 1), 2);
        x.ask(3, 1);
        DUE.is("worst(24, 1), BAR 1", x.worst(24, 1), -1);
        x.ask(3, 0);
        DUE.is("worst(24, 1), BAR 0", x.worst(24, 1), -1);
        x.ask(3, 3);
        DUE.is("worst(1, 1), BAR 3", x.worst(1, 1), 0);
        DUE.is("worst(1, 1) of nobody", new ThirdEvening().worst(1, 1), 0);
        ThirdEvening ten = Given.people(0, 0, 10);
        ten.ask(2, 12);
        ten.ask(3, 10);
        DUE.is("worst(24, 1), BAR 10 of 10", ten.worst(24, 1), -1);
        ten.ask(2, 9);
        DUE.is("worst(24, 1), BAR 10, nine CHAIRS", ten.worst(24, 1), 0);
        ThirdEvening none = new ThirdEvening();
        none.ask(3, 0);
        DUE.is("worst(24, 1) of nobody, BAR 0", none.worst(24, 1), -1);
        // The SHY one, who PAID, has WILL 7 at first, and less from EVENING to EVENING.
        ThirdEvening y = Given.people(0, 0, 1);
        y.person(2, 9, 8, true);
        y.ask(3, 2);
        int last = 0;
        while (y.ahead(last + 1, 1) == 2 * (last + 1)) {
            last++;
        }
        DUE.is("worst by ahead", y.worst(24, 1), last);
        DUE.is("worst(n, 1) with that EVENING", y.worst(last + 1, 1), last);
        DUE.is("worst(n, 1) without it", y.worst(last, 1), -1);
        DUE.of("Promise 19", "WORST of n EVENINGS (1 to 24; what 0), SHUT (1; NONE)");
        DUE.is("worst(1, 0)", y.worst(1, 0), 0);
        DUE.is("worst(1, 1)", y.worst(1, 1), -1);
        DUE.is("worst(24, 0)", x.worst(24, 0), 2);
        DUE.is("worst(24, 1)", x.worst(24, 1), 0);
        int[] no = {0, -1, 25};
        for (int n : no) {
            DUE.is("worst(" + n + ", 0)", y.worst(n, 0), -16);
            DUE.is("worst(" + n + ", 1)", y.worst(n, 1), -16);
        }
    }

    private static void ones() {
        ThirdEvening x = new ThirdEvening();
        x.person(0, 0, 18, false);
        x.person(5, 0, 8, false);
        x.evenings(2);
        DUE.of(OUTCOME, "ONES: COMINGS, OWN of one then");
        DUE.is("ones(0, 0, 0)", x.ones(0, 0, 0), 2);
        DUE.is("ones(0, 0, 1)", x.ones(0, 0, 1), 20);
        DUE.is("ones(1, 0, 1)", x.ones(1, 0, 1), 9);
        DUE.is("ones(0, 24, 0)", x.ones(0, 24, 0), 26);
        DUE.of("Promise 20", "ONES in n EVENINGS: COMINGS (what 0), OWN (1)");
        DUE.is("ones(0, 5, 0)", x.ones(0, 5, 0), 7);
        DUE.is("ones(0, 5, 1)", x.ones(0, 5, 1), 20);
        DUE.is("ones(1, 4, 0)", x.ones(1, 4, 0), 3);
        DUE.is("ones(1, 4, 1)", x.ones(1, 4, 1), 11);
        x.go(1, true);
        DUE.is("ones(1, 4, 0) of one GONE", x.ones(1, 4, 0), 1);
        DUE.is("ones(1, 4, 1) of one GONE", x.ones(1, 4, 1), 9);
    }

    private static void ringOne() {
        DUE.of(OUTCOME, "RUNG up this EVENING, the one by which most are SEATED, of several the least as bits: bits; how many are SEATED then");
        ThirdEvening x = Given.shy(4, 3);
        x.friend(1, 2);
        DUE.is("ring(1, 0): 2 brings 1", x.ring(1, 0), 4);
        DUE.is("ring(1, 1)", x.ring(1, 1), 2);
        DUE.is("ring(2, 0): 0 and 2, or 2 and 3: the least", x.ring(2, 0), 5);
        DUE.is("ring(2, 1)", x.ring(2, 1), 3);
        DUE.is("ring(3, 0)", x.ring(3, 0), 13);
        DUE.is("ring(3, 1)", x.ring(3, 1), 4);
        x.ask(2, 1);
        DUE.is("ring(3, 0), one CHAIR", x.ring(3, 0), 7);
        DUE.is("ring(3, 1), one CHAIR", x.ring(3, 1), 1);
        x.ask(2, 8);
        x.ask(1, 7);
        DUE.is("ring(1, 0), 4 more are 0", x.ring(1, 0), 1);
        DUE.is("ring(1, 1), 4 more are 0", x.ring(1, 1), 0);
        DUE.is("ring(2, 1), 4 and 3 more need one who comes", x.ring(2, 1), 0);
        x.ask(1, 6);
        DUE.is("ring(2, 1), 4 more are 1", x.ring(2, 1), 2);
        DUE.is("tonight(0) without", x.tonight(0), 0);

        ThirdEvening ten = Given.people(0, 0, 9);
        ten.person(2, 9, 8, false);
        ten.ask(2, 12);
        ten.ask(1, 3);
        DUE.is("ring(1, 0): the tenth", ten.ring(1, 0), 512);
        DUE.is("ring(1, 1)", ten.ring(1, 1), 10);
        DUE.is("ring(3, 0): with the least besides", ten.ring(3, 0), 512 + 3);
        DUE.of("Promise 21", "RING: bits (what 0), how many (1)");
        DUE.is("ring(2, 0)", ten.ring(2, 0), 513);
        DUE.is("ring(2, 1)", ten.ring(2, 1), 10);
        ten.ask(2, 9);
        DUE.is("ring(2, 0), nine CHAIRS", ten.ring(2, 0), 3);
        DUE.is("ring(2, 1), nine CHAIRS", ten.ring(2, 1), 9);
    }

    private static void ringSeveral() {
        DUE.of(OUTCOME, "RING: of sets of k PEOPLE who aren't GONE (0 to 3)");
        ThirdEvening x = Given.shy(5, 3);
        int[] bits = {0, 1, 3, 7};
        for (int k = 0; k <= 3; k++) {
            DUE.is("ring(" + k + ", 0)", x.ring(k, 0), bits[k]);
            DUE.is("ring(" + k + ", 1)", x.ring(k, 1), k);
        }
        DUE.is("ring(-1, 0)", x.ring(-1, 0), -16);
        DUE.is("ring(4, 0)", x.ring(4, 0), -16);
        x.go(0, true);
        x.go(2, true);
        int[] without = {0, 2, 10, 26};
        for (int k = 0; k <= 3; k++) {
            DUE.is("ring(" + k + ", 0), two GONE", x.ring(k, 0), without[k]);
        }
    }

    private static void ringFewer() {
        DUE.of(OUTCOME, "NONE: there are fewer than k");
        for (int count = 0; count <= 4; count++) {
            ThirdEvening x = Given.shy(count, 3);
            for (int gone = 0; gone <= count; gone++) {
                for (int k = 0; k <= 3; k++) {
                    DUE.is("ring(" + k + ", 1) of " + (count - gone), x.ring(k, 1), k > count - gone ? -1 : k);
                    DUE.is("ring(" + k + ", 0) of " + (count - gone), x.ring(k, 0) == -1 ? 1 : 0, k > count - gone ? 1 : 0);
                }
                x.go(count - gone - 1, true);
            }
        }
        DUE.of("Promise 21", "NONE.");
        ThirdEvening x = Given.shy(3, 3);
        x.go(1, true);
        DUE.is("ring(3, 0)", x.ring(3, 0), -1);
        DUE.is("ring(3, 1)", x.ring(3, 1), -1);
        DUE.same("REFUSALS", Given.refusals(x), "0 0 0 0 0 0 0 ");
    }

    private static void begin() {
        DUE.of(OUTCOME, "BEGIN: the LEVEL by which in n EVENINGS most are SEATED together, of several the least");
        // He has 3 less half of how far LEVEL is from 20, so he comes from 15 on.
        ThirdEvening x = new ThirdEvening();
        x.person(2, 9, 20, false);
        DUE.is("begin(1)", x.begin(1), 15);
        DUE.is("begin(24)", x.begin(24), 15);
        x.ask(1, 2);
        DUE.is("begin(1), WILL 1 at most", x.begin(1), 19);
        x.ask(1, 3);
        DUE.is("begin(24), nobody ever comes", x.begin(24), 0);
        // By LEVEL 9 or 10 he begins and comes thrice; by all others fewer times.
        ThirdEvening y = Given.shy(1, 2);
        DUE.is("begin(1): 7 to 9 are as good", y.begin(1), 7);
        DUE.is("begin(2): 8 and 9 are as good", y.begin(2), 8);
        DUE.is("begin(3): 9 alone", y.begin(3), 9);
        DUE.is("begin(24): 9 alone", y.begin(24), 9);
        DUE.of("Promise 22", "BEGIN.");
        DUE.is("begin(0)", y.begin(0), 0);
        DUE.is("begin(24) of nobody", new ThirdEvening().begin(24), 0);
    }

    private static void beginAtTheEnds() {
        DUE.of(OUTCOME, "of several the least");
        ThirdEvening x = new ThirdEvening();
        x.person(2, 9, 0, false);
        x.ask(1, 2);
        DUE.is("begin(1): 0 and 1 are as good", x.begin(1), 0);
        // Number 0, who PAID, comes by all from 17 on but 20, and then not for long, and there is but one CHAIR;
        // number 1 comes by 19 and 20 alone.
        ThirdEvening y = new ThirdEvening();
        y.person(2, 9, 18, true);
        y.person(2, 5, 20, false);
        y.ask(1, 6);
        y.ask(2, 1);
        DUE.is("begin(24): 20 alone", y.begin(24), 20);
    }

    private static void room() {
        DUE.of(OUTCOME, "ROOM: the least CHAIRS (1 to 12) by which in n EVENINGS nobody is TURNED");
        for (int count = 0; count <= 10; count++) {
            ThirdEvening x = Given.people(0, 0, count);
            DUE.is("room(1) of " + count, x.room(1), Math.max(1, count));
            DUE.is("room(24) of " + count, x.room(24), Math.max(1, count));
        }
        // The FAN comes first on the second EVENING.
        ThirdEvening x = withFan();
        DUE.is("room(1)", x.room(1), 1);
        DUE.is("room(2)", x.room(2), 2);
        x.ask(2, 12);
        DUE.is("room(2), whatever there is", x.room(2), 2);
        DUE.of("Promise 23", "ROOM.");
        ThirdEvening ten = Given.people(0, 0, 10);
        DUE.is("room(0)", ten.room(0), 1);
        ten.go(0, true);
        DUE.is("room(24), one GONE", ten.room(24), 9);
    }

    private static void take() {
        DUE.of(OUTCOME, "TAKE: the m (0 to all) so that, were all from m on GONE, behind n EVENINGS most aren't GONE, of several the least");
        for (int count = 0; count <= 10; count++) {
            ThirdEvening x = Given.people(0, 0, count);
            x.ask(2, 12);
            DUE.is("take(24) of " + count, x.take(24), count);
            x.ask(2, 2);
            DUE.is("take(24) with two CHAIRS", x.take(24), Math.min(2, count));
            DUE.is("take(1) with two CHAIRS: all are there still", x.take(1), count);
        }
        ThirdEvening x = Given.people(0, 0, 3);
        x.go(1, true);
        x.go(2, true);
        DUE.is("take(5), all but the first GONE already", x.take(5), 1);
        x.go(0, true);
        DUE.is("take(5), all GONE", x.take(5), 0);
        // A CHEERFUL one whom the first two need has the last number.
        ThirdEvening y = Given.shy(2, 5);
        y.person(3, 0, 8, false);
        y.friend(0, 2);
        y.friend(1, 2);
        DUE.is("take(2)", y.take(2), 3);
        y.friend(1, -1);
        DUE.is("take(2), the second goes all the same", y.take(2), 3);
        y.friend(0, -1);
        y.go(2, true);
        DUE.is("take(2), all go", y.take(2), 0);
        DUE.is("take(1), all are there still", y.take(1), 2);
        DUE.of("Promise 24", "TAKE.");
        DUE.is("take(0)", Given.people(0, 0, 10).take(0), 10);
        DUE.is("take(0) of nobody", new ThirdEvening().take(0), 0);
        DUE.is("take(24) of nobody", new ThirdEvening().take(24), 0);
    }

    private static void price() {
        DUE.of(OUTCOME, "PRICE: how many more were SEATED in n EVENINGS, if all had PAID, than if nobody had");
        for (int was = 0; was < 2; was++) {
            ThirdEvening x = new ThirdEvening();
            x.person(2, 9, 8, was == 1);
            x.ask(1, 3);
            // WILL is 0 and what was PAID, less half of what OWN has risen: 4, 4, 3, 2, 1, 1 and 0 - 1
            int[] price = {0, 1, 2, 3, 4, 5, 6, 6, 6};
            for (int n = 0; n < price.length; n++) {
                DUE.is("price(" + n + ")", x.price(n), price[n]);
            }
            DUE.is("price(24)", x.price(24), 6);
            DUE.is("personOf(0, 3) is as it was", x.personOf(0, 3), was);
            x.evenings(1);
            x.go(0, false);
            x.person(2, 9, 20, was == 0);
        }
        DUE.of("Promise 25", "PRICE.");
        DUE.is("price(24) of nobody", new ThirdEvening().price(24), 0);
        DUE.is("price(24) of ten who come anyway", Given.people(0, 0, 10).price(24), 0);
        ThirdEvening ten = new ThirdEvening();
        for (int i = 0; i < 10; i++) {
            ten.person(2, 9, 20, false);
        }
        ten.ask(0, 20);
        ten.ask(1, 3);
        ten.ask(2, 12);
        DUE.is("price(24) of ten who come twelve times", ten.price(24), 120);
        ten.ask(2, 7);
        DUE.is("price(24) with seven CHAIRS", ten.price(24), 84);
    }

    // Had he PAID, the first would hold the one CHAIR for twelve EVENINGS, and the second be GONE by then.
    private static void priceBelow0() {
        DUE.of(OUTCOME, "PRICE: how many more");
        ThirdEvening x = new ThirdEvening();
        x.person(2, 9, 20, false);
        x.person(0, 0, 20, false);
        x.ask(0, 20);
        x.ask(1, 3);
        x.ask(2, 1);
        DUE.is("price(12)", x.price(12), 0);
        DUE.is("price(13)", x.price(13), -1);
        DUE.is("price(24)", x.price(24), -12);
        DUE.same("REFUSALS", Given.refusals(x), "0 0 0 0 0 0 0 ");
    }

    // He has MISSED two as one who PAID; had he not, he would be GONE behind the next he misses.
    private static void priceOfOneWhoMissedTwo() {
        DUE.of("AN EVENING", "and is GONE, if MISSED is 2 (PAID: 3)");
        ThirdEvening x = new ThirdEvening();
        x.person(5, 2, 8, false);
        x.person(0, 0, 8, true);
        x.ask(2, 1);
        x.evenings(3);
        DUE.is("MISSED", x.personOf(1, 5), 2);
        DUE.is("price(2)", x.price(2), 0);
    }

    private static void lost() {
        DUE.of("Promise 26", "PEOPLE (bits) who are GONE behind n EVENINGS and aren't now");
        ThirdEvening x = new ThirdEvening();
        for (int i = 0; i < 4; i++) {
            x.person(0, 0, 8, i == 3);
        }
        x.go(1, true);
        x.ask(2, 1);
        int[] lost = {0, 0, 4, 12, 12};
        for (int n = 0; n < lost.length; n++) {
            DUE.is("lost(" + n + ")", x.lost(n), lost[n]);
        }
        DUE.is("lost(24)", x.lost(24), 12);
        x.evenings(1);
        DUE.is("lost(1), one EVENING on", x.lost(1), 4);
        ThirdEvening ten = Given.shy(10, 9);
        DUE.is("lost(1) of ten", ten.lost(1), 0);
        DUE.is("lost(2) of ten", ten.lost(2), 1023);
        ten.evenings(2);
        DUE.is("lost(24), all GONE already", ten.lost(24), 0);
        DUE.is("lost(24) of nobody", new ThirdEvening().lost(24), 0);
    }

    private static ThirdEvening mixed(int which) {
        ThirdEvening x = new ThirdEvening();
        for (int i = 0; i < 9; i++) {
            x.person((i * 3 + which) % 7, (i * 5 + which * 2) % 10, (i * 7 + which * 3) % 21, (i + which) % 3 == 0);
        }
        for (int i = 0; i < 9; i++) {
            if ((i + which) % 4 != 0) {
                x.friend(i, (i + 1 + (which + i) % 7) % 9);
            }
        }
        x.ask(0, 4 + which % 12);
        x.ask(1, which % 6);
        x.ask(2, 1 + which % 9);
        return x;
    }

    // The same told by ask, go, ahead and evenings.
    private static void byTheOtherCalls() {
        for (int which = 0; which < 60; which++) {
            int n = which * 7 % 25;
            DUE.of("Promise 22", "BEGIN.");
            DUE.is("begin(" + n + ") of " + which, mixed(which).begin(n), beginByAhead(mixed(which), n));
            DUE.of("Promise 23", "ROOM.");
            DUE.is("room(" + n + ") of " + which, mixed(which).room(n), roomByAhead(mixed(which), n));
            DUE.of("Promise 24", "TAKE.");
            DUE.is("take(" + n + ") of " + which, mixed(which).take(n), takeByAhead(mixed(which), n));
            DUE.of("Promise 26", "PEOPLE (bits) who are GONE behind n EVENINGS and aren't now");
            ThirdEvening x = mixed(which);
            int lost = x.lost(n);
            if (n > 0) {
                x.evenings(n);
            }
            for (int i = 0; i < 9; i++) {
                DUE.is("lost(" + n + ") of " + which, lost >> i & 1, x.personOf(i, 7));
            }
        }
    }

    private static int beginByAhead(ThirdEvening x, int n) {
        int begin = 0;
        int most = -1;
        for (int level = 0; level <= 20; level++) {
            x.ask(0, level);
            int seated = x.ahead(n, 1);
            if (seated > most) {
                most = seated;
                begin = level;
            }
        }
        return begin;
    }

    private static int roomByAhead(ThirdEvening x, int n) {
        int chairs = 1;
        x.ask(2, chairs);
        while (x.ahead(n, 2) > 0) {
            chairs++;
            x.ask(2, chairs);
        }
        return chairs;
    }

    private static int takeByAhead(ThirdEvening x, int n) {
        int take = 9;
        int most = x.ahead(n, 0);
        for (int m = 8; m >= 0; m--) {
            x.go(m, true);
            if (x.ahead(n, 0) >= most) {
                most = x.ahead(n, 0);
                take = m;
            }
        }
        return take;
    }
}
