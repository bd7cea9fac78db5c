/** Promises 27 to 32: who is whose friend, who holds whom, told REGISTERS. What is refused is in RefusalsTest. */
final class FriendsTest {
    private static final Due DUE = new Due("FriendsTest");
    private static final String OUTCOME = "WHAT COMES OF IT";

    public static void main(String[] args) {
        pairs();
        chain();
        holdsOthers();
        keeps();
        keep();
        friends();
        friendsOfAll();
        friendsOfNoneAndTheMost();
        judge();
        judgeOfNoneAndTheMost();
        judgeOfWhoIsSeated();
        DUE.end();
    }

    private static void pairs() {
        ThirdEvening x = Given.people(0, 0, 10);
        DUE.of("Promise 27", "How many pairs of PEOPLE are each other's FRIEND");
        DUE.is("pairs() of nobody", new ThirdEvening().pairs(), 0);
        DUE.is("pairs() without FRIENDS", x.pairs(), 0);
        x.friend(0, 1);
        DUE.is("pairs(), one sided", x.pairs(), 0);
        x.friend(1, 0);
        DUE.is("pairs()", x.pairs(), 1);
        x.friend(2, 3);
        x.friend(3, 4);
        x.friend(4, 2);
        DUE.is("pairs() and a round of three", x.pairs(), 1);
        for (int i = 2; i < 10; i += 2) {
            x.friend(i + 1, i);
            x.friend(i, i + 1);
        }
        DUE.is("pairs(), the most", x.pairs(), 5);
        x.go(8, true);
        x.go(9, true);
        DUE.is("pairs(), GONE or not", x.pairs(), 5);
        x.friend(9, -1);
        DUE.is("pairs(), one less", x.pairs(), 4);
    }

    private static void chain() {
        ThirdEvening x = Given.people(0, 0, 10);
        DUE.of("Promise 28", "How many others one comes to by his FRIEND, that one's FRIEND, and so on");
        DUE.is("chain(0) without a FRIEND", x.chain(0), 0);
        for (int i = 0; i < 9; i++) {
            x.friend(i, i + 1);
        }
        for (int i = 0; i < 10; i++) {
            DUE.is("chain(" + i + ") to the end", x.chain(i), 9 - i);
        }
        x.friend(9, 0);
        for (int i = 0; i < 10; i++) {
            DUE.is("chain(" + i + ") all round", x.chain(i), 9);
        }
        x.friend(9, 7);
        DUE.is("chain(0) into a round", x.chain(0), 9);
        DUE.is("chain(5) into a round", x.chain(5), 4);
        DUE.is("chain(8) in the round", x.chain(8), 2);
        x.go(8, true);
        DUE.is("chain(8), GONE or not", x.chain(8), 2);
        x.friend(9, 8);
        DUE.is("chain(9) of a pair", x.chain(9), 1);
        DUE.is("chain(7) into a pair", x.chain(7), 2);
    }

    // Number 0 comes by himself, 1 by 0, 2 by 1, 3 by 2; number 4 by himself.
    private static ThirdEvening held() {
        ThirdEvening x = new ThirdEvening();
        x.person(0, 0, 8, false);
        for (int i = 1; i < 4; i++) {
            x.person(2, 9, 8, false);
            x.friend(i, i - 1);
        }
        x.person(0, 0, 8, false);
        x.ask(1, 3);
        return x;
    }

    private static void holdsOthers() {
        DUE.of(OUTCOME, "HOLDS of one: how many others less were COMING now, if he were GONE");
        ThirdEvening x = held();
        int[] holds = {3, 2, 1, 0, 0};
        for (int i = 0; i < 5; i++) {
            DUE.is("keeps(" + i + ")", x.keeps(i), holds[i]);
        }
        x.ask(2, 1);
        DUE.is("keeps(0), of those COMING, not of those SEATED", x.keeps(0), 3);
        x.go(2, true);
        DUE.is("keeps(0), one of them GONE", x.keeps(0), 1);
        x.person(5, 0, 8, false);
        DUE.is("keeps(5) of one who doesn't come", x.keeps(5), 0);
        // All nine others need number 9.
        ThirdEvening ten = Given.shy(9, 3);
        ten.person(0, 0, 8, false);
        for (int i = 0; i < 9; i++) {
            ten.friend(i, 9);
        }
        DUE.is("keeps(9), the most", ten.keeps(9), 9);
        DUE.is("keeps(0)", ten.keeps(0), 0);
        // Nobody is drawn, so that nobody holds.
        ThirdEvening none = Given.shy(3, 3);
        none.friend(1, 0);
        DUE.is("keeps(0) where nobody comes", none.keeps(0), 0);
        // Whoever holds by what he would be RUNG up for holds nobody now.
        DUE.is("ring(1, 1)", none.ring(1, 1), 2);
        DUE.is("keeps(0) behind ring()", none.keeps(0), 0);
    }

    private static void keeps() {
        DUE.of("Promise 29", "HOLDS.");
        ThirdEvening one = Given.people(0, 0, 1);
        DUE.is("keeps(0) of one alone", one.keeps(0), 0);
        // A TWIN's FRIEND holds him, even if he needs no more to be drawn.
        ThirdEvening twins = Given.people(6, 0, 2);
        twins.friend(0, 1);
        twins.friend(1, 0);
        DUE.is("keeps(0) of twins", twins.keeps(0), 1);
        DUE.is("keeps(1) of twins", twins.keeps(1), 1);
        DUE.of("Promise 29", "-6 he is GONE");
        one.go(0, true);
        DUE.is("keeps(0)", one.keeps(0), -6);
        one.go(0, false);
        DUE.is("keeps(0), GONE no more", one.keeps(0), 0);
    }

    private static void keep() {
        DUE.of(OUTCOME, "KEEP: who HOLDS most (not GONE), of several the first");
        ThirdEvening x = held();
        DUE.is("keep()", x.keep(), 0);
        x.friend(4, 3);
        x.go(0, true);
        x.ask(1, 0);
        DUE.is("keep(), all come by themselves", x.keep(), 1);
        x.friend(3, 4);
        x.ask(1, 3);
        DUE.is("keep(), the last holds the third", x.keep(), 4);
        x.go(0, false);
        DUE.is("keep(), the first holds two", x.keep(), 0);
        DUE.of(OUTCOME, "NONE: all are");
        for (int i = 0; i < 4; i++) {
            x.go(i, true);
        }
        DUE.is("keep() of one, who holds nobody", x.keep(), 4);
        x.go(4, true);
        DUE.is("keep(), all GONE", x.keep(), -1);
        DUE.of("Promise 30", "KEEP; NONE");
        x.go(3, false);
        DUE.is("keep() of one", x.keep(), 3);
        DUE.is("keep() of nobody", new ThirdEvening().keep(), -1);
        DUE.same("REFUSALS", Given.refusals(x), "0 0 0 0 0 0 0 ");
    }

    private static void friends() {
        DUE.of(OUTCOME, "FRIENDS of one by a told REGISTER (a ROW of bits, the i-th who is SEATED on the i-th EVENING from now on)");
        ThirdEvening x = held();
        x.friend(1, -1);
        x.friend(2, -1);
        x.friend(3, -1);
        // SHY number 1 comes only by 0 or 4, who come by themselves, till his OWN is 10
        Given.ints(x, 0, 19, 19, 17, 17);
        DUE.is("friends by one who comes", x.friends(0, 1, 1), 17);
        DUE.is("friends by his second EVENING", x.friends(0, 2, 1), 17);
        DUE.is("friends by one EVENING too many", x.friends(0, 3, 1), 0);
        x.set(0, 2, 19);
        DUE.is("friends by all he comes to", x.friends(0, 3, 1), 17);
        Given.ints(x, 1, 17, 17, 17);
        DUE.is("friends by nobody, or one who doesn't come", x.friends(1, 3, 1), 32 + 12);
        Given.ints(x, 2, 17, 16);
        DUE.is("friends by what can't be", x.friends(2, 2, 1), 0);
        DUE.is("friends ahead of that", x.friends(2, 1, 1), 32 + 12);
        x.friend(1, 0);
        DUE.is("friends, whoever it is now", x.friends(1, 3, 1), 32 + 12);
        DUE.is("his FRIEND is as he was", x.friend(1, 0), 0);
        x.go(0, true);
        Given.ints(x, 3, 16);
        DUE.is("friends, one who is GONE among them", x.friends(3, 1, 1), 32 + 13);
    }

    private static void friendsOfAll() {
        DUE.of(OUTCOME, "PEOPLE (bits) who may be his FRIEND, and 2 to the number of all PEOPLE, if he may have none");
        for (int count = 1; count <= 10; count++) {
            ThirdEvening x = Given.people(0, 0, count);
            x.ask(2, 12);
            Given.ints(x, 0, (1 << count) - 1);
            for (int i = 0; i < count; i++) {
                DUE.is("friends of " + i + " of " + count, x.friends(0, 1, i), (1 << count + 1) - 1 - (1 << i));
            }
        }
        // A TWIN who comes may have none, or one who comes; one who doesn't can't have none.
        ThirdEvening x = Given.people(6, 0, 1);
        x.person(0, 0, 8, false);
        x.person(5, 0, 8, false);
        Given.ints(x, 0, 3);
        DUE.is("friends of a TWIN who comes", x.friends(0, 1, 0), 8 + 2);
        Given.ints(x, 0, 2);
        DUE.is("friends of a TWIN who doesn't", x.friends(0, 1, 0), 4);
        x.go(0, true);
        DUE.is("friends of a TWIN who is GONE", x.friends(0, 1, 0), 8 + 6);
    }

    private static void friendsOfNoneAndTheMost() {
        DUE.of("Promise 31", "FRIENDS of one by the first n elements (0 to 24) of the ROW in SHELF s");
        ThirdEvening x = Given.people(0, 0, 2);
        x.row(0, 2, 0);
        DUE.is("friends(0, 0, 1) of no elements", x.friends(0, 0, 1), 4 + 1);
        Given.ints(x, 1, 99, 99);
        DUE.is("friends(1, 0, 1) of none of two", x.friends(1, 0, 1), 4 + 1);
        DUE.is("friends(1, 1, 1)", x.friends(1, 1, 1), 0);
        Given.times(x, 2, 24, 3);
        DUE.is("friends(2, 24, 1) of 24", x.friends(2, 24, 1), 4 + 1);
        DUE.is("friends(2, 25, 1) of 24", x.friends(2, 25, 1), -5);
        x.set(2, 23, 2);
        DUE.is("friends(2, 24, 1), the last not so", x.friends(2, 24, 1), 0);
        DUE.is("friends(2, 23, 1) ahead of it", x.friends(2, 23, 1), 4 + 1);
        Given.times(x, 3, 25, 3);
        DUE.is("friends(3, 24, 1) of 25", x.friends(3, 24, 1), 4 + 1);
        DUE.is("friends(3, 25, 1) of 25", x.friends(3, 25, 1), -6);
    }

    private static void judge() {
        DUE.of(OUTCOME, "A told REGISTER is WRONG at the first element that isn't so; NONE");
        ThirdEvening x = new ThirdEvening();
        x.person(5, 0, 8, false);
        x.person(0, 0, 8, false);
        Given.ints(x, 0, 2, 3, 2, 3, 3);
        DUE.is("judge(0, 4)", x.judge(0, 4), -1);
        DUE.is("judge(0, 5)", x.judge(0, 5), 4);
        x.set(0, 3, 1);
        DUE.is("judge(0, 5), two not so", x.judge(0, 5), 3);
        x.set(0, 0, 3);
        DUE.is("judge(0, 5), the first of all not so", x.judge(0, 5), 0);
        x.set(0, 0, 2 + 4);
        DUE.is("judge(0, 5), one more than there is", x.judge(0, 5), 0);
        x.set(0, 0, -1);
        DUE.is("judge(0, 5), all bits", x.judge(0, 5), 0);
        x.evenings(1);
        Given.ints(x, 0, 3, 2, 3);
        DUE.is("judge(0, 3) from now on", x.judge(0, 3), -1);
    }

    private static void judgeOfNoneAndTheMost() {
        DUE.of("Promise 32", "WRONG of a told REGISTER, the first n elements (0 to 24) of the ROW in SHELF s; NONE");
        ThirdEvening x = Given.people(0, 0, 2);
        x.row(0, 2, 0);
        DUE.is("judge(0, 0) of no elements", x.judge(0, 0), -1);
        DUE.is("judge(0, 1) of no elements", x.judge(0, 1), -15);
        Given.ints(x, 1, 99, 99);
        DUE.is("judge(1, 0) of none of two", x.judge(1, 0), -1);
        DUE.is("judge(1, 1)", x.judge(1, 1), 0);
        Given.times(x, 2, 24, 3);
        DUE.is("judge(2, 24) of 24", x.judge(2, 24), -1);
        DUE.is("judge(2, 25) of 24", x.judge(2, 25), -15);
        x.set(2, 23, 2);
        DUE.is("judge(2, 24), the last not so", x.judge(2, 24), 23);
        DUE.is("judge(2, 23) ahead of it", x.judge(2, 23), -1);
        Given.times(x, 3, 160, 3);
        DUE.is("judge(3, 24) of the most elements", x.judge(3, 24), -1);
        DUE.is("judge(3, 25) of the most elements", x.judge(3, 25), -16);
        ThirdEvening nobody = new ThirdEvening();
        Given.times(nobody, 0, 24, 0);
        DUE.is("judge(0, 24) of nobody", nobody.judge(0, 24), -1);
    }

    private static void judgeOfWhoIsSeated() {
        DUE.of(OUTCOME, "(a ROW of bits, the i-th who is SEATED on the i-th EVENING from now on)");
        // One CHAIR: the FAN has it whenever he comes, and number 1 is TURNED away then, but never twice on end.
        ThirdEvening x = new ThirdEvening();
        x.person(5, 0, 8, false);
        x.person(0, 0, 8, false);
        x.ask(2, 1);
        Given.ints(x, 0, 2, 1, 2, 1, 2);
        DUE.is("judge(0, 5)", x.judge(0, 5), -1);
        Given.ints(x, 0, 2, 3);
        DUE.is("judge(0, 2) of who comes", x.judge(0, 2), 1);
        Given.ints(x, 0, 2, 2);
        DUE.is("judge(0, 2) of who is TURNED away", x.judge(0, 2), 1);
        ThirdEvening ten = Given.people(0, 0, 10);
        ten.ask(2, 12);
        Given.ints(ten, 0, 1023, 1023);
        DUE.is("judge(0, 2) of ten", ten.judge(0, 2), -1);
        // Nobody is RUNG up: WILL 0 is too little.
        ThirdEvening none = Given.shy(3, 3);
        Given.ints(none, 0, 0, 0);
        DUE.is("judge(0, 2) of nobody who comes", none.judge(0, 2), -1);
        DUE.is("friends(0, 2, 0) of nobody who comes", none.friends(0, 2, 0), 8 + 6);
    }
}
