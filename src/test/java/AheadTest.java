/** Promises 22 to 26: how hard to begin, how many chairs, how many to take, what paying does, who is lost. */
final class AheadTest {
    private static final Due DUE = new Due("AheadTest");

    public static void main(String[] args) {
        begin();
        room();
        take();
        price();
        priceOfOneWhoMissedTwo();
        lost();
        refused();
        byTheOtherCalls();
        DUE.end();
    }

    private static void begin() {
        ThirdEvening x = new ThirdEvening();
        x.person(2, 9, 20, false);
        // he has 3 less half of how far the level is below 20, so he comes from 15 on
        DUE.is("22 the least", x.begin(3), 15);
        DUE.is("22 none", x.begin(0), 0);
        DUE.is("22 nothing is changed", x.status(1), 8);
        x.go(0, true);
        DUE.is("22 nobody", x.begin(24), 0);
    }

    private static void room() {
        ThirdEvening x = new ThirdEvening();
        DUE.is("23 nobody", x.room(24), 1);
        for (int i = 0; i < 10; i++) {
            x.person(0, 0, 8, false);
        }
        DUE.is("23 none", x.room(0), 1);
        DUE.is("23 all", x.room(1), 10);
        x.go(0, true);
        DUE.is("23 less", x.room(24), 9);
        DUE.is("23 nothing is changed", x.status(3), 8);
    }

    private static void take() {
        ThirdEvening x = new ThirdEvening();
        DUE.is("24 nobody", x.take(5), 0);
        for (int i = 0; i < 3; i++) {
            x.person(0, 0, 8, false);
        }
        x.ask(2, 2);
        DUE.is("24 none", x.take(0), 3);
        DUE.is("24 all are still there", x.take(1), 3);
        DUE.is("24 the third goes anyway", x.take(2), 2);
        DUE.is("24 much later", x.take(24), 2);
        DUE.is("24 nothing is changed", x.status(6), 0);
        // the first holds what there is; without him nobody would be turned
        x.go(1, true);
        x.go(2, true);
        DUE.is("24 of several the least", x.take(5), 1);
        x.go(0, true);
        DUE.is("24 all are gone", x.take(5), 0);
    }

    private static void price() {
        for (int was = 0; was < 2; was++) {
            ThirdEvening x = new ThirdEvening();
            x.person(2, 9, 8, was == 1);
            x.ask(1, 3);
            int[] price = {0, 1, 2, 3, 4, 5, 6, 6, 6};
            for (int n = 0; n < price.length; n++) {
                DUE.is("25 price of " + n, x.price(n), price[n]);
            }
            DUE.is("25 nothing is changed", x.personOf(0, 3), was);
        }
    }

    private static void priceOfOneWhoMissedTwo() {
        ThirdEvening x = new ThirdEvening();
        x.person(5, 2, 8, false);
        x.person(0, 0, 8, true);
        x.ask(2, 1);
        x.evenings(3);
        DUE.is("25 missed two", x.personOf(1, 5), 2);
        DUE.is("25 he goes, had he paid or not", x.price(2), 0);
    }

    private static void lost() {
        ThirdEvening x = new ThirdEvening();
        for (int i = 0; i < 4; i++) {
            x.person(0, 0, 8, i == 3);
        }
        x.go(1, true);
        x.ask(2, 1);
        DUE.is("26 none", x.lost(0), 0);
        DUE.is("26 one", x.lost(1), 0);
        DUE.is("26 two", x.lost(2), 4);
        DUE.is("26 three", x.lost(3), 12);
        DUE.is("26 the most", x.lost(24), 12);
        DUE.is("26 nothing is changed", x.status(6), 1);
    }

    private static void refused() {
        ThirdEvening x = new ThirdEvening();
        x.person(0, 0, 8, false);
        int[] no = {-1, 25, Integer.MIN_VALUE, Integer.MAX_VALUE};
        for (int n : no) {
            DUE.is("22 refused", x.begin(n), -6);
            DUE.is("23 refused", x.room(n), -6);
            DUE.is("24 refused", x.take(n), -6);
            DUE.is("25 refused", x.price(n), -1006);
            DUE.is("26 refused", x.lost(n), -6);
        }
        DUE.is("22 counted", x.status(16), 20);
        DUE.is("22 the most", x.begin(24), 0);
        DUE.is("23 the most", x.room(24), 1);
        DUE.is("24 the most", x.take(24), 1);
        DUE.is("25 the most", x.price(24), 0);
        DUE.is("26 the most", x.lost(24), 0);
        DUE.is("22 not refused", x.status(16), 20);
    }

    private static ThirdEvening mixed(int which) {
        ThirdEvening x = new ThirdEvening();
        for (int i = 0; i < 9; i++) {
            x.person((i * 3 + which) % 7, (i * 5 + which * 2) % 10, (i * 7 + which * 3) % 21, (i + which) % 3 == 0);
        }
        for (int i = 0; i < 9; i++) {
            if ((i + which) % 4 != 0) {
                x.friend(i, (i + 1 + (which + i) % 7) % 9);
            }
        }
        x.ask(0, 4 + which % 12);
        x.ask(1, which % 6);
        x.ask(2, 1 + which % 9);
        return x;
    }

    // The same told by ask, go, ahead and evenings.
    private static void byTheOtherCalls() {
        for (int which = 0; which < 60; which++) {
            int n = which * 7 % 25;
            ThirdEvening x = mixed(which);
            int begin = 0;
            int most = -1;
            for (int level = 0; level <= 20; level++) {
                x.ask(0, level);
                if (x.ahead(n, 1) > most) {
                    most = x.ahead(n, 1);
                    begin = level;
                }
            }
            x = mixed(which);
            DUE.is("22 by ahead", x.begin(n), begin);
            int room = x.room(n);
            x.ask(2, room);
            DUE.is("23 by ahead", x.ahead(n, 2), 0);
            if (room > 1) {
                x.ask(2, room - 1);
                DUE.is("23 one less by ahead", x.ahead(n, 2) > 0 ? 1 : 0, 1);
            }
            x = mixed(which);
            int told = x.take(n);
            int take = 9;
            most = x.ahead(n, 0);
            for (int m = 8; m >= 0; m--) {
                x.go(m, true);
                if (x.ahead(n, 0) >= most) {
                    most = x.ahead(n, 0);
                    take = m;
                }
            }
            DUE.is("24 by ahead", told, take);
            x = mixed(which);
            int lost = x.lost(n);
            if (n > 0) {
                x.evenings(n);
            }
            for (int i = 0; i < 9; i++) {
                DUE.is("26 by evenings", lost >> i & 1, x.personOf(i, 7));
            }
        }
    }
}
