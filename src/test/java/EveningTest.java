/** Promises 16 and 17, and what an EVENING is: what draws one, who comes, who has a chair, what is behind it. */
final class EveningTest {
    private static final Due DUE = new Due("EveningTest");
    private static final String EVENING = "AN EVENING";

    public static void main(String[] args) {
        rain();
        level();
        behind();
        paid();
        eagerOnes();
        shyOnes();
        fans();
        will();
        rung();
        above0();
        friends();
        cheerfulFriends();
        stepByStep();
        twins();
        seated();
        tonight();
        behindAnEvening();
        marksEnd();
        goneOnesStay();
        DUE.end();
    }

    private static ThirdEvening one(int kind, int a, int own, boolean paid) {
        ThirdEvening x = new ThirdEvening();
        x.person(kind, a, own, paid);
        return x;
    }

    private static void rain() {
        DUE.of(EVENING, "WILL of one: PERSON 12, less RAIN");
        ThirdEvening x = one(0, 9, 8, false);
        int[] will = {12, 11, 10, 9, 8, 7, 6, 5, 4, 3};
        for (int rain = 0; rain < will.length; rain++) {
            x.ask(1, rain);
            DUE.is("will(0), RAIN " + rain, x.will(0), will[rain]);
        }
    }

    private static void level() {
        int[][] levelOwnHalf = {{8, 8, 0}, {8, 9, 0}, {8, 7, 0}, {8, 10, 1}, {8, 6, 1}, {8, 11, 1}, {8, 5, 1}, {8, 12, 2},
            {20, 0, 10}, {0, 20, 10}, {20, 1, 9}, {1, 20, 9}, {20, 20, 0}, {0, 0, 0}, {0, 1, 0}, {1, 0, 0}};
        DUE.of(EVENING, "less half of how far LEVEL and OWN are apart (cut)");
        for (int[] one : levelOwnHalf) {
            ThirdEvening x = one(0, 3, one[1], false);
            x.ask(0, one[0]);
            DUE.is("will(0), LEVEL " + one[0] + ", OWN " + one[1], x.will(0), 12 - one[2]);
        }
        DUE.of(EVENING, "SLOW: that of SHY, less half of how far LEVEL and OWN are apart (cut) once more");
        for (int[] one : levelOwnHalf) {
            ThirdEvening x = one(4, 3, one[1], false);
            x.ask(0, one[0]);
            DUE.is("will(0), LEVEL " + one[0] + ", OWN " + one[1], x.will(0), 12 - 3 - 2 * one[2]);
        }
        ThirdEvening x = one(4, 9, 0, false);
        x.ask(0, 20);
        x.ask(1, 9);
        DUE.is("will(0), the least", x.will(0), 12 - 9 - 10 - 9 - 10);
    }

    private static void behind() {
        DUE.of(EVENING, "less 2 times BEHIND");
        ThirdEvening x = one(2, 9, 8, false);
        x.ask(1, 3);
        for (int i = 0; i < 11; i++) {
            DUE.is("will(0), BEHIND " + Math.min(9, i), x.will(0), -2 * Math.min(9, i));
            x.evenings(1);
            x.go(0, false);
        }
    }

    private static void paid() {
        DUE.of(EVENING, "and, if PAID, 4 less a third of EVENING (cut; 0 at least)");
        int[] more = {4, 4, 4, 3, 3, 3, 2, 2, 2, 1, 1, 1, 0, 0, 0, 0, 0, 0, 0};
        ThirdEvening x = new ThirdEvening();
        for (int kind = 0; kind < 7; kind++) {
            x.person(kind, 0, 20, true);
        }
        x.person(0, 0, 20, false);
        x.ask(0, 20);
        x.go(5, true);
        for (int evening = 0; evening < more.length; evening++) {
            int[] will = {12, 12, 12, 14, 12, evening % 2 == 0 ? -8 : 12, 14};
            for (int kind = 0; kind < 7; kind++) {
                DUE.is("will of KIND " + kind + " on " + evening, x.will(kind), will[kind] + more[evening]);
            }
            DUE.is("will of one who hasn't PAID", x.will(7), 12);
            x.evenings(1);
        }
        x.evenings(24);
        DUE.is("will(0) much later", x.will(0), 12);
    }

    private static void eagerOnes() {
        int[] as = {0, 1, 4, 9};
        DUE.of(EVENING, "EAGER: that, and a");
        for (int a : as) {
            DUE.is("will of EAGER, a " + a, one(1, a, 6, false).will(0), 11 + a);
        }
        DUE.of(EVENING, "CHEERFUL: that of EAGER, and 2");
        for (int a : as) {
            DUE.is("will of CHEERFUL, a " + a, one(3, a, 6, false).will(0), 13 + a);
        }
        DUE.of(EVENING, "TWIN: as CHEERFUL");
        for (int a : as) {
            DUE.is("will of TWIN, a " + a, one(6, a, 6, false).will(0), 13 + a);
        }
    }

    private static void shyOnes() {
        int[] as = {0, 1, 4, 9};
        DUE.of(EVENING, "SHY: that of PERSON, less a");
        for (int a : as) {
            DUE.is("will of SHY, a " + a, one(2, a, 6, false).will(0), 11 - a);
        }
        DUE.of(EVENING, "SLOW: that of SHY");
        for (int a : as) {
            DUE.is("will of SLOW, a " + a, one(4, a, 6, false).will(0), 10 - a);
        }
    }

    private static void fans() {
        DUE.of(EVENING, "FAN: that of PERSON, less 20, if EVENING is a multiple of a and 2");
        for (int a = 0; a <= 9; a++) {
            ThirdEvening x = one(5, a, 20, false);
            x.ask(0, 20);
            for (int evening = 0; evening < 24; evening++) {
                boolean plays = evening % (a + 2) == 0;
                int want = 12 - 2 * x.personOf(0, 4) - (plays ? 20 : 0);
                DUE.is("will of FAN, a " + a + ", on " + evening, x.will(0), want);
                DUE.is("and he comes", x.evenings(1), plays ? 0 : 1);
            }
        }
    }

    private static void will() {
        DUE.of("Promise 16", "WILL of one (GONE or not)");
        ThirdEvening x = Given.people(1, 4, 10);
        DUE.is("will(0)", x.will(0), 16);
        DUE.is("will(9), the last", x.will(9), 16);
        x.go(9, true);
        DUE.is("will(9), GONE", x.will(9), 16);
        x.friend(0, 1);
        DUE.is("will(0) with a FRIEND", x.will(0), 16);
    }

    private static void rung() {
        DUE.of(EVENING, "RUNG up: 4 more that EVENING");
        ThirdEvening x = Given.shy(1, 6);
        DUE.is("4 more than -3: ring(1, 1)", x.ring(1, 1), 1);
        x.ask(1, 7);
        DUE.is("4 more than -4: ring(1, 1)", x.ring(1, 1), 0);
        x.ask(1, 6);
        DUE.is("tonight(0), not RUNG up", x.tonight(0), 0);
        DUE.is("evenings(1), not RUNG up", x.evenings(1), 0);
    }

    private static void above0() {
        DUE.of(EVENING, "he comes, if his WILL with that is above 0");
        int[] rain = {2, 3, 4};
        for (int r : rain) {
            DUE.is("WILL " + (3 - r), Given.shy(1, r).tonight(0), r < 3 ? 1 : 0);
        }
        for (int r = 4; r <= 8; r++) {
            ThirdEvening x = Given.shy(1, r);
            x.person(0, 0, 8, false);
            x.friend(0, 1);
            DUE.is("WILL " + (3 - r) + " with 3 more", x.tonight(0), r < 6 ? 3 : 2);
            ThirdEvening y = Given.shy(1, Math.min(9, r + 1));
            y.person(3, 0, 8, false);
            y.friend(0, 1);
            DUE.is("WILL " + (2 - r) + " with 6 more", y.tonight(0), r + 1 < 9 ? 3 : 2);
        }
    }

    private static void friends() {
        DUE.of(EVENING, "who has a FRIEND who is COMING has 3 more");
        ThirdEvening x = Given.shy(1, 5);
        x.person(0, 0, 8, false);
        DUE.is("without a FRIEND", x.tonight(0), 2);
        x.friend(1, 0);
        DUE.is("whose FRIEND he is, but not the other way about", x.tonight(0), 2);
        x.friend(0, 1);
        DUE.is("with a FRIEND", x.tonight(0), 3);
        x.go(1, true);
        DUE.is("with a FRIEND who is GONE", x.tonight(0), 0);
        x.go(1, false);
        x.person(5, 0, 8, false);
        x.friend(0, 2);
        DUE.is("with a FRIEND who doesn't come", x.tonight(0), 2);
        // A FRIEND who is COMING, but for whom there is no CHAIR, draws him still.
        ThirdEvening y = Given.shy(2, 5);
        y.person(0, 0, 8, false);
        y.friend(0, 2);
        y.ask(2, 1);
        DUE.is("with a FRIEND who is TURNED away", y.tonight(1), 1);
        DUE.is("who is", y.tonight(2), 4);
    }

    private static void cheerfulFriends() {
        DUE.of(EVENING, "(6, if that one is CHEERFUL, or under it)");
        int[] more = {3, 3, 3, 6, 3, 3, 6};
        for (int kind = 0; kind < 7; kind++) {
            for (int r = 4; r <= 9; r++) {
                ThirdEvening x = Given.shy(1, 0);
                x.person(kind, 0, 8, true);
                x.friend(0, 1);
                // a fan comes on EVENING 1; the shy one, who came too, has 3 still
                x.evenings(1);
                x.ask(1, r);
                DUE.is("by KIND " + kind + ", WILL " + (3 - r), x.tonight(0), 3 - r + more[kind] > 0 ? 3 : 2);
            }
        }
    }

    private static void stepByStep() {
        DUE.of(EVENING, "COMING: all who aren't GONE, but step by step without those who don't come by those still COMING, till it stays so");
        // WILL 0 each: number i comes by i + 1, number 9 by himself.
        ThirdEvening x = Given.shy(9, 3);
        x.person(0, 0, 8, false);
        for (int i = 0; i < 9; i++) {
            x.friend(i, i + 1);
        }
        x.ask(2, 12);
        DUE.is("each by the next", x.tonight(0), 1023);
        x.go(9, true);
        DUE.is("the last is GONE, and nine steps behind him all stay away", x.tonight(0), 0);
        x.go(9, false);
        x.go(5, true);
        DUE.is("the sixth is GONE, and all ahead of him", x.tonight(0), 1023 - 63);
        // The same the other way about.
        ThirdEvening y = Given.people(0, 0, 1);
        for (int i = 1; i < 10; i++) {
            y.person(2, 9, 8, false);
            y.friend(i, i - 1);
        }
        y.ask(1, 3);
        DUE.is("each by the one ahead", y.tonight(0), 1023);
        y.go(0, true);
        DUE.is("nobody", y.tonight(0), 0);
        // In a round each holds the next, and nobody has to begin.
        ThirdEvening z = Given.shy(3, 3);
        z.friend(0, 1);
        z.friend(1, 2);
        z.friend(2, 0);
        DUE.is("a round", z.tonight(0), 7);
        z.friend(2, -1);
        DUE.is("a round that is open", z.tonight(0), 0);
    }

    private static void twins() {
        DUE.of(EVENING, "TWIN: and only if his FRIEND, if he has one, is COMING");
        ThirdEvening x = Given.people(6, 0, 2);
        DUE.is("without FRIENDS", x.tonight(0), 3);
        x.friend(0, 1);
        DUE.is("with a FRIEND who comes", x.tonight(0), 3);
        x.friend(1, 0);
        DUE.is("both", x.tonight(0), 3);
        x.go(1, true);
        DUE.is("or not at all", x.tonight(0), 0);
        x.friend(0, -1);
        DUE.is("alone again", x.tonight(0), 1);
        x.go(1, false);
        x.person(5, 0, 8, false);
        x.friend(1, 2);
        DUE.is("with a fan on his EVENING", x.tonight(0), 1);
        x.friend(0, 1);
        DUE.is("with a TWIN with a fan on his EVENING", x.tonight(0), 0);
        x.evenings(1);
        DUE.is("with a fan on another", x.tonight(0), 7);
        // WILL 4 less what it rains, and 3 more by his FRIEND
        ThirdEvening y = one(6, 0, 0, false);
        y.person(1, 9, 20, false);
        y.ask(0, 20);
        y.friend(0, 1);
        y.ask(1, 6);
        DUE.is("a TWIN who is drawn", y.tonight(0), 3);
        y.ask(1, 7);
        DUE.is("a TWIN who isn't, though his FRIEND comes", y.tonight(0), 2);
        ThirdEvening z = Given.people(3, 0, 2);
        z.friend(0, 1);
        z.go(1, true);
        DUE.is("a CHEERFUL one comes without his FRIEND", z.tonight(0), 1);
    }

    private static void seated() {
        DUE.of(EVENING, "SEATED: of those COMING by numbers as many as there are CHAIRS");
        ThirdEvening x = Given.people(0, 0, 10);
        int[] first = {1, 3, 7, 15, 31, 63, 127, 255, 511, 1023, 1023, 1023};
        for (int chairs = 1; chairs <= 12; chairs++) {
            x.ask(2, chairs);
            DUE.is("tonight(1) with " + chairs + " CHAIRS", x.tonight(1), first[chairs - 1]);
        }
        DUE.of(EVENING, "the others are TURNED away");
        for (int chairs = 1; chairs <= 12; chairs++) {
            x.ask(2, chairs);
            DUE.is("tonight(2) with " + chairs + " CHAIRS", x.tonight(2), 1023 - first[chairs - 1]);
        }
        x.go(1, true);
        x.ask(2, 2);
        DUE.is("tonight(1), one GONE", x.tonight(1), 5);
        DUE.is("tonight(2), one GONE", x.tonight(2), 1023 - 7);
    }

    private static void tonight() {
        DUE.of("Promise 17", "PEOPLE (bits): COMING (what 0), SEATED (1), TURNED (2)");
        ThirdEvening nobody = new ThirdEvening();
        ThirdEvening x = Given.people(0, 0, 5);
        x.go(1, true);
        x.ask(2, 2);
        int[] are = {29, 5, 24};
        for (int what = 0; what < 3; what++) {
            DUE.is("tonight(" + what + ") of nobody", nobody.tonight(what), 0);
            DUE.is("tonight(" + what + ")", x.tonight(what), are[what]);
        }
    }

    private static void behindAnEvening() {
        ThirdEvening x = new ThirdEvening();
        x.person(0, 0, 19, false);
        x.person(0, 0, 8, false);
        x.person(0, 0, 8, true);
        x.ask(2, 1);
        int[] gone = {0, 1, 1, 1};
        int[] goneOfPaid = {0, 0, 1, 1};
        int[] missed = {1, 2, 2, 2};
        int[] missedOfPaid = {1, 2, 3, 3};
        for (int i = 0; i < 4; i++) {
            x.evenings(1);
            DUE.of(EVENING, "BEHIND an EVENING: who is SEATED has COMINGS 1 more");
            DUE.is("COMINGS", x.personOf(0, 6), i + 1);
            DUE.is("COMINGS of one who was TURNED away", x.personOf(1, 6), 0);
            DUE.of(EVENING, "who isn't (and not GONE) BEHIND 1 more");
            DUE.is("BEHIND", x.personOf(1, 4), missed[i]);
            DUE.is("BEHIND of one who PAID", x.personOf(2, 4), missedOfPaid[i]);
            DUE.is("BEHIND of one who was SEATED", x.personOf(0, 4), 0);
            DUE.of(EVENING, "MISSED 1 more, and is GONE, if MISSED is 2 (PAID: 3)");
            DUE.is("MISSED", x.personOf(1, 5), missed[i]);
            DUE.is("GONE", x.personOf(1, 7), gone[i]);
            DUE.is("MISSED of one who PAID", x.personOf(2, 5), missedOfPaid[i]);
            DUE.is("GONE of one who PAID", x.personOf(2, 7), goneOfPaid[i]);
            DUE.is("MISSED of one who was SEATED", x.personOf(0, 5), 0);
            DUE.of(EVENING, "EVENING is 1 more");
            DUE.is("status(5)", x.status(5), i + 1);
        }
    }

    private static void marksEnd() {
        ThirdEvening x = new ThirdEvening();
        x.person(0, 0, 18, false);
        x.ask(0, 20);
        int[] own = {19, 20, 20, 20};
        for (int i = 0; i < 4; i++) {
            x.evenings(1);
            DUE.of(EVENING, "OWN 1 more (20 at most)");
            DUE.is("OWN behind " + (i + 1), x.personOf(0, 2), own[i]);
            DUE.of(EVENING, "BEHIND 1 less (0 at least)");
            DUE.is("BEHIND", x.personOf(0, 4), 0);
        }

        ThirdEvening y = Given.shy(1, 9);
        for (int i = 0; i < 12; i++) {
            y.evenings(1);
            y.go(0, false);
            DUE.of(EVENING, "(9 at most)");
            DUE.is("BEHIND " + (i + 1) + " EVENINGS missed", y.personOf(0, 4), Math.min(9, i + 1));
        }

        // MISSED is told on end: who comes in between isn't GONE by his second time.
        ThirdEvening z = Given.shy(1, 0);
        int[] rain = {9, 0, 9, 0, 9, 9};
        int[] missed = {1, 0, 1, 0, 1, 2};
        int[] behind = {1, 0, 1, 0, 1, 2};
        for (int i = 0; i < rain.length; i++) {
            z.ask(1, rain[i]);
            z.evenings(1);
            DUE.of(EVENING, "MISSED 0");
            DUE.is("MISSED", z.personOf(0, 5), missed[i]);
            DUE.is("GONE", z.personOf(0, 7), i == 5 ? 1 : 0);
            DUE.of(EVENING, "BEHIND 1 less");
            DUE.is("BEHIND", z.personOf(0, 4), behind[i]);
        }
    }

    private static void goneOnesStay() {
        DUE.of(EVENING, "(and not GONE)");
        ThirdEvening x = Given.people(0, 0, 2);
        x.ask(1, 9);
        x.ask(0, 0);
        x.evenings(1);
        x.go(1, true);
        int[] are = {0, 0, 8, 0, 1, 1, 0, 1};
        x.ask(1, 0);
        for (int i = 0; i < 3; i++) {
            x.evenings(1);
            for (int what = 0; what < 8; what++) {
                DUE.is("personOf(1, " + what + ") of one GONE", x.personOf(1, what), are[what]);
            }
        }
    }
}
