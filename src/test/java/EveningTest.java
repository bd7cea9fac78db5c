/** Promises 16 to 21: what draws one, who comes, and EVENINGS from now on. */
final class EveningTest {
    private static final Due DUE = new Due("EveningTest");

    public static void main(String[] args) {
        willByKinds();
        willByWhatStands();
        willByEvening();
        comingWithFriends();
        comingByTwins();
        seatedAndTurned();
        tonightRefused();
        behindAnEvening();
        ahead();
        worst();
        ones();
        ring();
        ringRefused();
        DUE.end();
    }

    private static void willByKinds() {
        ThirdEvening x = new ThirdEvening();
        for (int kind = 0; kind < 7; kind++) {
            x.person(kind, 4, 3, false);
        }
        // half of how far 8 and 3 are apart is 2
        int[] will = {10, 14, 6, 16, 4, -10, 16};
        for (int kind = 0; kind < 7; kind++) {
            DUE.is("16 will of kind " + kind, x.will(kind), will[kind]);
        }
        x.go(1, true);
        DUE.is("16 gone or not", x.will(1), 14);
        DUE.is("16 no such", x.will(7), -1001);
        DUE.is("16 no such below", x.will(-1), -1001);
        DUE.is("16 counted", x.status(11), 2);
    }

    private static void willByWhatStands() {
        ThirdEvening x = new ThirdEvening();
        x.person(0, 9, 11, false);
        x.person(4, 0, 11, false);
        DUE.is("16 own above", x.will(0), 11);
        x.ask(0, 15);
        DUE.is("16 own below", x.will(0), 10);
        DUE.is("16 slow twice", x.will(1), 8);
        x.ask(0, 14);
        DUE.is("16 cut", x.will(0), 11);
        DUE.is("16 slow cut twice", x.will(1), 10);
        x.ask(1, 9);
        DUE.is("16 rain", x.will(0), 2);
        x.ask(0, 20);
        x.evenings(1);
        // level 20, own 11: 12 - 9 - 4 = -1 stayed away, and is 2 lower
        DUE.is("16 behind", x.will(0), -3);
    }

    private static void willByEvening() {
        ThirdEvening x = new ThirdEvening();
        x.person(0, 0, 20, true);
        x.person(5, 1, 20, false);
        x.ask(0, 20);
        int[] more = {4, 4, 4, 3, 3, 3, 2, 2, 2, 1, 1, 1, 0, 0, 0, 0, 0, 0};
        for (int evening = 0; evening < more.length; evening++) {
            DUE.is("16 paid, evening " + evening, x.will(0), 12 + more[evening]);
            if (evening % 3 == 0) {
                DUE.is("16 fan's evening " + evening, x.will(1), 12 - 20);
            } else {
                DUE.is("16 fan's other evening " + evening, x.will(1), evening % 3 == 1 ? 10 : 12);
            }
            x.evenings(1);
        }
    }

    // SHY ones with a 9 have 3 less what it rains.
    private static ThirdEvening shyOnes(int count, int rain) {
        ThirdEvening x = new ThirdEvening();
        for (int i = 0; i < count; i++) {
            x.person(2, 9, 8, false);
        }
        x.ask(1, rain);
        return x;
    }

    private static void comingWithFriends() {
        ThirdEvening x = shyOnes(3, 2);
        DUE.is("17 above 0 comes", x.tonight(0), 7);
        x.ask(1, 3);
        DUE.is("17 0 does not", x.tonight(0), 0);
        x.person(0, 0, 8, false);
        x.friend(2, 3);
        DUE.is("17 3 more", x.tonight(0), 12);
        x.friend(1, 2);
        x.friend(0, 1);
        DUE.is("17 friends of friends", x.tonight(0), 15);
        x.go(3, true);
        DUE.is("17 step by step away", x.tonight(0), 0);
        x.go(3, false);
        x.ask(1, 6);
        DUE.is("17 3 more are 0", x.tonight(0), 8);
        x.friend(0, 1);
        x.friend(1, 0);
        x.ask(1, 3);
        DUE.is("17 each holds the other", x.tonight(0), 15);

        ThirdEvening z = shyOnes(1, 5);
        z.person(0, 0, 8, false);
        z.friend(0, 1);
        DUE.is("17 3 more are 1", z.tonight(0), 3);
        z = shyOnes(1, 8);
        z.person(3, 0, 8, false);
        z.friend(0, 1);
        DUE.is("17 6 more are 1", z.tonight(0), 3);
        z.ask(1, 9);
        DUE.is("17 6 more are 0", z.tonight(0), 2);

        int[] holds = {0, 0, 0, 1, 0, 0, 1};
        for (int kind = 0; kind < 7; kind++) {
            ThirdEvening y = new ThirdEvening();
            y.person(2, 9, 8, false);
            y.person(kind, 0, 8, true);
            y.friend(0, 1);
            y.ask(1, 6);
            // a fan stays away on evening 0 whatever it rains
            DUE.is("17 held by kind " + kind, y.tonight(0), kind == 5 ? 0 : 2 + holds[kind]);
        }
    }

    private static void comingByTwins() {
        ThirdEvening x = new ThirdEvening();
        x.person(6, 0, 8, false);
        x.person(6, 0, 8, false);
        DUE.is("17 twins without friends", x.tonight(0), 3);
        x.friend(0, 1);
        x.friend(1, 0);
        DUE.is("17 twins both", x.tonight(0), 3);
        x.go(1, true);
        DUE.is("17 or not at all", x.tonight(0), 0);
        x.friend(0, -1);
        DUE.is("17 alone again", x.tonight(0), 1);
        x.go(1, false);
        x.person(5, 0, 8, false);
        x.friend(1, 2);
        DUE.is("17 with a fan on his evening", x.tonight(0), 1);
        x.evenings(1);
        DUE.is("17 with a fan on another", x.tonight(0), 7);
        x.person(3, 0, 8, false);
        x.friend(3, 1);
        x.go(2, true);
        DUE.is("17 a cheerful one comes without", x.tonight(0), 9);
    }

    private static void seatedAndTurned() {
        ThirdEvening x = shyOnes(5, 0);
        x.go(1, true);
        x.ask(2, 2);
        DUE.is("17 coming", x.tonight(0), 29);
        DUE.is("17 seated by numbers", x.tonight(1), 5);
        DUE.is("17 turned", x.tonight(2), 24);
        x.ask(2, 4);
        DUE.is("17 as many chairs", x.tonight(1), 29);
        DUE.is("17 nobody turned", x.tonight(2), 0);
        x.ask(2, 3);
        DUE.is("17 one chair less", x.tonight(2), 16);
    }

    private static void tonightRefused() {
        ThirdEvening x = new ThirdEvening();
        DUE.is("17 nobody there", x.tonight(0), 0);
        DUE.is("17 another what", x.tonight(3), -5);
        DUE.is("17 another what below", x.tonight(-1), -5);
        DUE.is("17 counted", x.status(15), 2);
    }

    private static void behindAnEvening() {
        ThirdEvening x = new ThirdEvening();
        x.person(0, 0, 19, false);
        x.person(0, 0, 8, false);
        x.person(0, 0, 8, true);
        x.ask(2, 1);
        int[] gone = {0, 1, 1, 1};
        int[] goneOfPaid = {0, 0, 1, 1};
        int[] missed = {1, 2, 2, 2};
        int[] missedOfPaid = {1, 2, 3, 3};
        for (int i = 0; i < 4; i++) {
            DUE.is("33 one seated", x.evenings(1), 1);
            DUE.is("33 own", x.personOf(0, 2), 20);
            DUE.is("33 comings", x.personOf(0, 6), i + 1);
            DUE.is("33 missed", x.personOf(1, 5), missed[i]);
            DUE.is("33 behind", x.personOf(1, 4), missed[i]);
            DUE.is("33 gone", x.personOf(1, 7), gone[i]);
            DUE.is("33 missed of one who paid", x.personOf(2, 5), missedOfPaid[i]);
            DUE.is("33 gone of one who paid", x.personOf(2, 7), goneOfPaid[i]);
            DUE.is("33 evening", x.status(5), i + 1);
        }
        x.go(2, false);
        x.go(0, true);
        x.evenings(1);
        DUE.is("33 behind 1 less", x.personOf(2, 4), 2);
        DUE.is("33 missed 0", x.personOf(2, 5), 0);
        for (int i = 0; i < 12; i++) {
            x.ask(1, 9);
            x.ask(0, 0);
            x.go(1, false);
            x.evenings(1);
        }
        DUE.is("33 behind 9 at most", x.personOf(1, 4), 9);
        DUE.is("33 behind is 0 at least", x.personOf(0, 4), 0);
    }

    private static void ahead() {
        ThirdEvening x = new ThirdEvening();
        x.person(0, 0, 8, false);
        x.person(0, 0, 8, false);
        x.person(0, 0, 8, true);
        x.ask(2, 1);
        String before = Due.state(x);
        int[] left = {3, 3, 2, 1, 1};
        int[] turned = {0, 2, 4, 5, 5};
        for (int n = 0; n < 5; n++) {
            DUE.is("18 not gone in " + n, x.ahead(n, 0), left[n]);
            DUE.is("18 seated in " + n, x.ahead(n, 1), n);
            DUE.is("18 turned in " + n, x.ahead(n, 2), turned[n]);
        }
        DUE.is("18 the most", x.ahead(24, 1), 24);
        DUE.is("18 nothing is changed", Due.state(x).equals(before) ? 1 : 0, 1);
        DUE.is("18 another what first", x.ahead(25, 3), -5);
        DUE.is("18 another what below", x.ahead(1, -1), -5);
        DUE.is("18 too many", x.ahead(25, 0), -6);
        DUE.is("18 below", x.ahead(-1, 2), -6);
        DUE.is("18 counted", x.status(15) * 10 + x.status(16), 22);
    }

    private static void worst() {
        ThirdEvening x = new ThirdEvening();
        x.person(0, 0, 8, false);
        x.person(5, 1, 8, false);
        x.ask(3, 2);
        DUE.is("19 worst", x.worst(3, 0), 0);
        DUE.is("19 shut", x.worst(3, 1), 0);
        x.evenings(1);
        // the fan stays away on evening 3, which is number 2 from now on
        DUE.is("19 worst of equals the first", x.worst(2, 0), 0);
        DUE.is("19 not shut", x.worst(2, 1), -1);
        DUE.is("19 worst from now on", x.worst(3, 0), 2);
        DUE.is("19 shut from now on", x.worst(3, 1), 2);
        DUE.is("19 worst of several the first", x.worst(24, 0), 2);
        x.ask(3, 1);
        DUE.is("19 as many as the bar", x.worst(24, 1), -1);
        x.ask(3, 0);
        DUE.is("19 bar 0", x.worst(24, 1), -1);
        x.ask(3, 3);
        DUE.is("19 shut at once", x.worst(1, 1), 0);
        DUE.is("19 another what first", x.worst(0, 2), -15);
        DUE.is("19 another what below", x.worst(1, -1), -15);
        DUE.is("19 none", x.worst(0, 0), -16);
        DUE.is("19 too many", x.worst(25, 1), -16);
        DUE.is("19 counted", x.status(15) * 10 + x.status(16), 22);
    }

    private static void ones() {
        ThirdEvening x = new ThirdEvening();
        x.person(0, 0, 18, false);
        x.person(5, 0, 8, false);
        x.evenings(2);
        DUE.is("20 comings now", x.ones(0, 0, 0), 2);
        DUE.is("20 comings then", x.ones(0, 5, 0), 7);
        DUE.is("20 own then", x.ones(0, 5, 1), 20);
        DUE.is("20 fan's comings", x.ones(1, 4, 0), 3);
        DUE.is("20 fan's own", x.ones(1, 4, 1), 11);
        DUE.is("20 nothing is changed", x.personOf(1, 6), 1);
        DUE.is("20 no such first", x.ones(2, 25, 2), -1);
        DUE.is("20 another what then", x.ones(0, 25, 2), -5);
        DUE.is("20 another what below", x.ones(0, 1, -1), -5);
        DUE.is("20 too many", x.ones(0, 25, 1), -6);
        DUE.is("20 below", x.ones(0, -1, 1), -6);
        DUE.is("20 counted", x.status(11) * 100 + x.status(15) * 10 + x.status(16), 122);
    }

    private static void ring() {
        ThirdEvening x = shyOnes(4, 3);
        x.friend(1, 2);
        DUE.is("21 nobody rung", x.ring(0, 0), 0);
        DUE.is("21 nobody comes", x.ring(0, 1), 0);
        DUE.is("21 one brings his friend", x.ring(1, 0), 4);
        DUE.is("21 two come", x.ring(1, 1), 2);
        DUE.is("21 two of several the least", x.ring(2, 0), 5);
        DUE.is("21 three come", x.ring(2, 1), 3);
        DUE.is("21 three rung", x.ring(3, 0), 13);
        DUE.is("21 all come", x.ring(3, 1), 4);
        x.ask(2, 1);
        DUE.is("21 one chair", x.ring(3, 0), 7);
        DUE.is("21 one seated", x.ring(3, 1), 1);
        x.ask(2, 8);
        x.ask(1, 7);
        DUE.is("21 4 more are 0", x.ring(1, 1), 0);
        DUE.is("21 of none the least", x.ring(1, 0), 1);
        DUE.is("21 the friend is 3 more", x.ring(2, 1), 0);
        x.ask(1, 6);
        DUE.is("21 rung both", x.ring(2, 1), 2);
        x.ask(1, 3);
        x.go(2, true);
        DUE.is("21 not the gone", x.ring(1, 0), 1);
        DUE.is("21 three left", x.ring(3, 0), 11);
        x.go(0, true);
        DUE.is("21 fewer than three", x.ring(3, 0), -1);
        DUE.is("21 none how many", x.ring(3, 1), -1);
        DUE.is("21 that is no refusal", x.status(11), 0);
        DUE.is("21 only tonight", x.tonight(0), 0);
    }

    private static void ringRefused() {
        ThirdEvening x = shyOnes(4, 3);
        DUE.is("21 another what first", x.ring(4, 2), -15);
        DUE.is("21 another what below", x.ring(1, -1), -15);
        DUE.is("21 too many", x.ring(4, 0), -16);
        DUE.is("21 below", x.ring(-1, 1), -16);
        DUE.is("21 counted", x.status(15) * 10 + x.status(16), 22);
    }
}
