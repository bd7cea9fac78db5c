/** Promises 27 to 32: who is whose friend, who holds whom, told REGISTERS. */
final class FriendsTest {
    private static final Due DUE = new Due("FriendsTest");

    public static void main(String[] args) {
        pairs();
        chain();
        keeps();
        keep();
        friends();
        friendsByLongs();
        friendsRefused();
        judge();
        judgeRefused();
        DUE.end();
    }

    private static ThirdEvening people(int kind, int a, int count) {
        ThirdEvening x = new ThirdEvening();
        for (int i = 0; i < count; i++) {
            x.person(kind, a, 8, false);
        }
        return x;
    }

    private static void pairs() {
        ThirdEvening x = people(0, 0, 6);
        DUE.is("27 none", x.pairs(), 0);
        x.friend(0, 1);
        DUE.is("27 one sided", x.pairs(), 0);
        x.friend(1, 0);
        DUE.is("27 one", x.pairs(), 1);
        x.friend(2, 3);
        x.friend(3, 4);
        x.friend(4, 2);
        DUE.is("27 a round of three is none", x.pairs(), 1);
        x.friend(4, 5);
        x.friend(5, 4);
        DUE.is("27 two", x.pairs(), 2);
        x.go(4, true);
        DUE.is("27 gone or not", x.pairs(), 2);
        x.friend(0, -1);
        DUE.is("27 one again", x.pairs(), 1);
        DUE.is("27 nobody", new ThirdEvening().pairs(), 0);
    }

    private static void chain() {
        ThirdEvening x = people(0, 0, 10);
        DUE.is("28 no friend", x.chain(0), 0);
        for (int i = 0; i < 9; i++) {
            x.friend(i, i + 1);
        }
        for (int i = 0; i < 10; i++) {
            DUE.is("28 to the end", x.chain(i), 9 - i);
        }
        x.friend(9, 0);
        DUE.is("28 all round", x.chain(4), 9);
        x.friend(9, 7);
        DUE.is("28 into a round", x.chain(5), 4);
        DUE.is("28 in the round", x.chain(8), 2);
        x.go(8, true);
        DUE.is("28 gone or not", x.chain(8), 2);
        DUE.is("28 no such", x.chain(10), -1);
        DUE.is("28 no such below", x.chain(-1), -1);
        DUE.is("28 counted", x.status(11), 2);
    }

    // Number 0 comes by himself, 1 by 0, 2 by 1, 3 by 2; number 4 by himself.
    private static ThirdEvening held() {
        ThirdEvening x = new ThirdEvening();
        x.person(0, 0, 8, false);
        for (int i = 1; i < 4; i++) {
            x.person(2, 9, 8, false);
            x.friend(i, i - 1);
        }
        x.person(0, 0, 8, false);
        x.ask(1, 3);
        return x;
    }

    private static void keeps() {
        ThirdEvening x = held();
        int[] holds = {3, 2, 1, 0, 0};
        for (int i = 0; i < 5; i++) {
            DUE.is("29 holds", x.keeps(i), holds[i]);
        }
        x.ask(2, 1);
        DUE.is("29 of those coming, not of those seated", x.keeps(0), 3);
        x.go(2, true);
        DUE.is("29 holds less", x.keeps(0), 1);
        DUE.is("29 gone", x.keeps(2), -6);
        DUE.is("29 no such", x.keeps(5), -1);
        DUE.is("29 no such below", x.keeps(-1), -1);
        DUE.is("29 counted", x.status(11) * 10 + x.status(16), 21);
        DUE.is("29 nothing is changed", x.status(6), 1);
        x.person(5, 0, 8, false);
        DUE.is("29 one who doesn't come", x.keeps(5), 0);
        ThirdEvening y = people(2, 9, 3);
        y.friend(1, 0);
        y.ask(1, 3);
        DUE.is("29 nobody is rung up", y.keeps(0) * 10 + y.keeps(2), 0);
        Due.ints(y, 0, 0, 0);
        DUE.is("32 nobody is rung up", y.judge(0, 2), -1);
    }

    private static void keep() {
        ThirdEvening x = held();
        DUE.is("30 keep", x.keep(), 0);
        x.friend(4, 3);
        x.go(0, true);
        x.ask(1, 0);
        DUE.is("30 all come alone: the first not gone", x.keep(), 1);
        x.friend(3, 4);
        x.ask(1, 3);
        DUE.is("30 the last holds the third", x.keep(), 4);
        for (int i = 1; i < 5; i++) {
            x.go(i, true);
        }
        DUE.is("30 all are gone", x.keep(), -1);
        DUE.is("30 nobody", new ThirdEvening().keep(), -1);
        DUE.is("30 nothing is refused", x.status(16), 0);
    }

    private static void friends() {
        ThirdEvening x = held();
        x.friend(1, -1);
        x.friend(2, -1);
        x.friend(3, -1);
        Due.ints(x, 0, 19, 19, 17, 17);
        // SHY number 1 comes only by 0 or 4, who come by themselves
        DUE.is("31 none told", x.friends(0, 0, 1), 61);
        DUE.is("31 by one who comes", x.friends(0, 1, 1), 17);
        DUE.is("31 nothing is changed", x.friend(1, -1), -1);
        Due.ints(x, 1, 17, 17, 17);
        DUE.is("31 by nobody, or one who doesn't come", x.friends(1, 3, 1), 44);
        Due.ints(x, 2, 17, 16);
        DUE.is("31 can't be", x.friends(2, 2, 1), 0);
        DUE.is("31 ahead of that", x.friends(2, 1, 1), 44);
        x.friend(1, 0);
        DUE.is("31 whoever it is now", x.friends(1, 3, 1), 44);
        x.go(0, true);
        Due.ints(x, 3, 16);
        DUE.is("31 one gone may be", x.friends(3, 1, 1), 45);
        int[] most = new int[26];
        java.util.Arrays.fill(most, 16);
        Due.ints(x, 4, most);
        DUE.is("31 the most", x.friends(4, 24, 1), 45);
    }

    private static void friendsByLongs() {
        ThirdEvening x = people(0, 0, 2);
        x.row(0, 3, 1);
        x.set(0, 0, (1L << 40) + 3);
        DUE.is("31 the lowest 32 bits of longs", x.friends(0, 1, 0), 6);
        DUE.is("32 the lowest 32 bits of longs", x.judge(0, 1), -1);
        x.set(0, 0, (1L << 31) + 3);
        DUE.is("31 not the lowest 16", x.friends(0, 1, 0), 0);
        DUE.is("32 not the lowest 16", x.judge(0, 1), 0);
        for (int i = 2; i < 10; i++) {
            x.person(0, 0, 8, false);
        }
        x.ask(2, 12);
        x.row(1, 0, 1);
        x.set(1, 0, 1023);
        DUE.is("32 bytes can't tell of ten", x.judge(1, 1), 0);
        x.row(1, 1, 1);
        x.set(1, 0, 1023);
        DUE.is("32 shorts can", x.judge(1, 1), -1);
        DUE.is("31 of ten", x.friends(1, 1, 9), 511 + 1024);
    }

    private static void friendsRefused() {
        ThirdEvening x = people(0, 0, 2);
        x.show(1, 0);
        x.row(0, 2, 2);
        x.row(3, 2, 30);
        DUE.is("31 no shelf", x.friends(8, -1, 0), -1);
        DUE.is("31 no person", x.friends(1, -1, 2), -1);
        DUE.is("31 no person below", x.friends(0, 1, -1), -1);
        DUE.is("31 a person there", x.friends(1, -1, 0), -2);
        DUE.is("31 nothing there", x.friends(2, -1, 0), -3);
        DUE.is("31 below", x.friends(0, -1, 0), -4);
        DUE.is("31 fewer elements", x.friends(0, 3, 0), -5);
        DUE.is("31 fewer, and too many", x.friends(0, 25, 0), -5);
        DUE.is("31 too many", x.friends(3, 25, 0), -6);
        DUE.is("31 counted", x.status(11) * 10000 + x.status(12) * 1000 + x.status(13) * 100 + x.status(14) * 10
            + x.status(15), 31112);
        DUE.is("31 counted too many", x.status(16), 1);
    }

    private static void judge() {
        ThirdEvening x = new ThirdEvening();
        x.person(5, 0, 8, false);
        x.person(0, 0, 8, false);
        Due.ints(x, 0, 2, 3, 2, 3, 3);
        DUE.is("32 so", x.judge(0, 4), -1);
        DUE.is("32 not so", x.judge(0, 5), 4);
        DUE.is("32 none told", x.judge(0, 0), -1);
        x.set(0, 1, 2);
        x.set(0, 3, 1);
        DUE.is("32 the first", x.judge(0, 5), 1);
        DUE.is("32 ahead of it", x.judge(0, 1), -1);
        DUE.is("32 nothing is changed", x.status(5), 0);
        x.evenings(1);
        DUE.is("32 from now on", x.judge(0, 1), 0);
        x.ask(2, 1);
        Due.ints(x, 1, 1, 2);
        DUE.is("32 who is seated, not who comes", x.judge(1, 2), -1);
    }

    private static void judgeRefused() {
        ThirdEvening x = people(0, 0, 2);
        x.show(1, 0);
        x.row(0, 2, 2);
        x.row(3, 2, 30);
        DUE.is("32 no shelf", x.judge(8, -1), -11);
        DUE.is("32 no shelf below", x.judge(-1, 0), -11);
        DUE.is("32 a person there", x.judge(1, -1), -12);
        DUE.is("32 nothing there", x.judge(2, -1), -13);
        DUE.is("32 below", x.judge(0, -1), -14);
        DUE.is("32 fewer elements", x.judge(0, 3), -15);
        DUE.is("32 fewer, and too many", x.judge(0, 25), -15);
        DUE.is("32 too many", x.judge(3, 25), -16);
        DUE.is("32 the most", x.judge(3, 24), 0);
        DUE.is("32 counted", x.status(11) * 10000 + x.status(12) * 1000 + x.status(13) * 100 + x.status(14) * 10
            + x.status(15), 21112);
        DUE.is("32 counted too many", x.status(16), 1);
    }
}
