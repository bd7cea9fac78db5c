/** Promises 9 to 15: PEOPLE, what stands about them, and texts. What is refused is in RefusalsTest. */
final class SchoolTest {
    private static final Due DUE = new Due("SchoolTest");
    private static final String SCHOOL = "THE SCHOOL";
    private static final int[] MOST = {20, 9, 12, 10};
    private static final int[] LEAST = {0, 0, 1, 0};
    private static final String[] WORDS = {"level", "rain", "chairs", "bar"};

    public static void main(String[] args) {
        person();
        numbersOfPeople();
        marksOfPeople();
        friend();
        settings();
        evening();
        go();
        personOf();
        school();
        items();
        itemsOfPeople();
        itemsOfFriends();
        itemsOfSettings();
        itemsOfGone();
        blanks();
        digits();
        overWhatThereIs();
        orNothing();
        room();
        roomIsAskedWhenTheLettersStand();
        faultsOfLetters();
        faultsOfEnds();
        faultsOfNumbers();
        theFirstFault();
        faultOfTheLatest();
        DUE.end();
    }

    private static void person() {
        ThirdEvening x = new ThirdEvening();
        DUE.of("Promise 9", "One of the PEOPLE: the number");
        DUE.is("person(0, 0, 0, false), the least", x.person(0, 0, 0, false), 0);
        DUE.is("person(6, 9, 20, true), the most", x.person(6, 9, 20, true), 1);
        int[][] are = {{0, 0, 0, 0, 0, 0, 0, 0}, {6, 9, 20, 1, 0, 0, 0, 0}};
        for (int i = 0; i < 2; i++) {
            for (int what = 0; what < 8; what++) {
                DUE.is("personOf(" + i + ", " + what + ")", x.personOf(i, what), are[i][what]);
            }
        }
    }

    private static void numbersOfPeople() {
        ThirdEvening x = new ThirdEvening();
        DUE.of(SCHOOL, "PEOPLE have numbers, from 0 on, 10 at most");
        for (int i = 0; i < 10; i++) {
            DUE.is("person, one more", x.person(i % 7, i, i, false), i);
        }
        DUE.is("person, the eleventh", x.person(0, 0, 0, false), -7);
        DUE.is("status(0)", x.status(0), 10);
        DUE.is("personOf(9, 0)", x.personOf(9, 0), 2);
        DUE.is("personOf(10, 0)", x.personOf(10, 0), -5);
        DUE.is("personOf(-1, 0)", x.personOf(-1, 0), -5);
    }

    private static void marksOfPeople() {
        ThirdEvening x = new ThirdEvening();
        DUE.of(SCHOOL, "a (0 to 9)");
        DUE.is("a -1", x.person(0, -1, 0, true), -6);
        DUE.is("a 10", x.person(0, 10, 0, true), -6);
        DUE.is("a 0", x.person(0, 0, 0, true), 0);
        DUE.is("a 9", x.person(0, 9, 0, true), 1);
        DUE.of(SCHOOL, "OWN (level, 0 to 20)");
        DUE.is("OWN -1", x.person(0, 0, -1, true), -6);
        DUE.is("OWN 21", x.person(0, 0, 21, true), -6);
        DUE.is("OWN 0", x.person(0, 0, 0, true), 2);
        DUE.is("OWN 20", x.person(0, 0, 20, false), 3);
        DUE.of(SCHOOL, "PAID or not");
        DUE.is("personOf(2, 3)", x.personOf(2, 3), 1);
        DUE.is("personOf(3, 3)", x.personOf(3, 3), 0);
        DUE.of(SCHOOL, "COMINGS (0 at first)");
        DUE.is("personOf(3, 6)", x.personOf(3, 6), 0);
        DUE.of(SCHOOL, "GONE or not (not at first)");
        DUE.is("personOf(3, 7)", x.personOf(3, 7), 0);

        // He is turned away evening for evening; GONE no more, he begins to MISS anew.
        ThirdEvening y = Given.people(0, 0, 1);
        y.person(0, 0, 8, true);
        y.ask(2, 1);
        DUE.of(SCHOOL, "MISSED (evenings on end, 0 to 3; 0 at first)");
        int[] missed = {0, 1, 2, 3, 3};
        for (int i = 0; i < missed.length; i++) {
            DUE.is("MISSED behind " + i, y.personOf(1, 5), missed[i]);
            y.evenings(1);
        }
        y.go(1, false);
        y.evenings(1);
        y.ask(2, 2);
        y.evenings(1);
        DUE.is("MISSED when he came", y.personOf(1, 5), 0);
        y.ask(2, 1);
        y.evenings(1);
        DUE.is("MISSED anew", y.personOf(1, 5), 1);

        DUE.of(SCHOOL, "BEHIND (0 to 9; 0 at first)");
        DUE.is("at first", x.personOf(3, 4), 0);
        for (int i = 4; i < 12; i++) {
            y.go(1, false);
            DUE.is("behind some evenings", y.personOf(1, 4), Math.min(i, 9));
            y.evenings(1);
        }
        DUE.is("of one who comes", y.personOf(0, 4), 0);
    }

    private static void friend() {
        ThirdEvening x = Given.people(0, 0, 3);
        DUE.of(SCHOOL, "FRIEND (one of the PEOPLE, not he himself; none at first)");
        for (int i = 0; i < 3; i++) {
            DUE.is("friend(" + i + ", -1) at first", x.friend(i, -1), -1);
            DUE.is("friend(" + i + ", " + i + ")", x.friend(i, i), -16);
        }
        DUE.is("friend(0, 3), no such one", x.friend(0, 3), -11);
        DUE.is("friend(0, -2), no such one", x.friend(0, -2), -11);
        DUE.of("Promise 10", "FRIEND of one becomes another (NONE: nobody): who it was (NONE)");
        DUE.is("friend(0, 1)", x.friend(0, 1), -1);
        DUE.is("friend(0, 2), the last", x.friend(0, 2), 1);
        DUE.is("friend(2, 0), the first", x.friend(2, 0), -1);
        DUE.is("friend(0, -1)", x.friend(0, -1), 2);
        DUE.is("friend(0, -1) once more", x.friend(0, -1), -1);
        DUE.is("friend(2, -1)", x.friend(2, -1), 0);
    }

    private static void settings() {
        ThirdEvening x = new ThirdEvening();
        DUE.of(SCHOOL, "LEVEL (0 to 20; 8 at first)");
        edges(x, 0, 8);
        DUE.of(SCHOOL, "RAIN (0 to 9; 0 at first)");
        edges(x, 1, 0);
        DUE.of(SCHOOL, "CHAIRS (1 to 12; 8 at first)");
        edges(x, 2, 8);
        DUE.of(SCHOOL, "BAR (0 to 10; 3 at first)");
        edges(x, 3, 3);
        DUE.of("Promise 11", "LEVEL (what 0), RAIN (1), CHAIRS (2), BAR (3) becomes v: what it was");
        for (int what = 0; what < 4; what++) {
            x.ask(what, 2 + what);
        }
        for (int what = 0; what < 4; what++) {
            DUE.is("status(" + (what + 1) + ")", x.status(what + 1), 2 + what);
            DUE.is("ask(" + what + ", 7)", x.ask(what, 7), 2 + what);
            DUE.is("ask(" + what + ", 7) once more", x.ask(what, 7), 7);
        }
        DUE.of("Promise 11", "-6");
        int[] values = {0, 1, 5};
        for (int v : values) {
            DUE.is("ask(4, " + v + ")", x.ask(4, v), -6);
            DUE.is("ask(-1, " + v + ")", x.ask(-1, v), -6);
        }
    }

    private static void edges(ThirdEvening x, int what, int first) {
        DUE.is("status(" + (what + 1) + ") at first", x.status(what + 1), first);
        DUE.is("ask(" + what + "), one above", x.ask(what, MOST[what] + 1), -6);
        DUE.is("ask(" + what + "), one below", x.ask(what, LEAST[what] - 1), -6);
        DUE.is("ask(" + what + "), the most", x.ask(what, MOST[what]), first);
        DUE.is("ask(" + what + "), the least", x.ask(what, LEAST[what]), MOST[what]);
        DUE.is("status(" + (what + 1) + ")", x.status(what + 1), LEAST[what]);
    }

    private static void evening() {
        ThirdEvening x = new ThirdEvening();
        DUE.of(SCHOOL, "EVENING (which one it is, from 0 on)");
        DUE.is("status(5) at first", x.status(5), 0);
        x.evenings(1);
        DUE.is("status(5) behind one", x.status(5), 1);
        x.evenings(24);
        DUE.is("status(5) behind 24 more", x.status(5), 25);
        x.drawn(24);
        DUE.is("status(5) behind 24 by draws", x.status(5), 49);
    }

    private static void go() {
        ThirdEvening x = new ThirdEvening();
        x.person(0, 0, 20, true);
        x.person(0, 0, 8, true);
        x.ask(0, 0);
        x.ask(1, 9);
        x.evenings(2);
        DUE.of("Promise 12", "One is GONE, or isn't (MISSED is 0 then): whether he was (1, 0)");
        DUE.is("MISSED", x.personOf(0, 5), 2);
        DUE.is("go(0, true)", x.go(0, true), 0);
        DUE.is("MISSED still", x.personOf(0, 5), 2);
        DUE.is("GONE", x.personOf(0, 7), 1);
        DUE.is("the other is not GONE", x.personOf(1, 7), 0);
        DUE.is("go(0, true) once more", x.go(0, true), 1);
        DUE.is("go(0, false)", x.go(0, false), 1);
        DUE.is("not GONE", x.personOf(0, 7), 0);
        DUE.is("MISSED then", x.personOf(0, 5), 0);
        DUE.is("BEHIND stays", x.personOf(0, 4), 2);
        x.evenings(1);
        DUE.is("MISSED one", x.personOf(0, 5), 1);
        DUE.is("go(0, false) of one who wasn't", x.go(0, false), 0);
        DUE.is("MISSED then", x.personOf(0, 5), 0);
    }

    private static void personOf() {
        ThirdEvening x = new ThirdEvening();
        x.person(4, 3, 18, true);
        x.person(1, 9, 19, false);
        x.ask(0, 20);
        // slow: 12 - 1 + 4 - 3 - 1 = 11 comes twice; then, with one chair, he comes and the other is turned away
        x.evenings(2);
        x.ask(2, 1);
        x.evenings(1);
        DUE.of("Promise 13", "Of one: 0 KIND, 1 a, 2 OWN, 3 whether he PAID (1, 0), 4 BEHIND, 5 MISSED, 6 COMINGS, 7 whether he is GONE (1, 0)");
        int[][] are = {{4, 3, 20, 1, 0, 0, 3, 0}, {1, 9, 20, 0, 1, 1, 2, 0}};
        for (int i = 0; i < 2; i++) {
            for (int what = 0; what < 8; what++) {
                DUE.is("personOf(" + i + ", " + what + ")", x.personOf(i, what), are[i][what]);
            }
        }
        x.evenings(1);
        DUE.is("personOf(1, 7)", x.personOf(1, 7), 1);
    }

    // ---- texts

    private static int read(ThirdEvening x, String text) {
        Given.text(x, 0, 0, text);
        return x.school(0);
    }

    private static void stands(ThirdEvening x, String text, int items) {
        DUE.is("school of \"" + text + "\"", read(x, text), items);
        DUE.is("its fault()", x.fault(), -1);
    }

    private static void fault(ThirdEvening x, String text, int at) {
        DUE.is("school of \"" + text + "\"", read(x, text), -6);
        DUE.is("fault() of \"" + text + "\"", x.fault(), at);
    }

    // By a new object with two PEOPLE.
    private static void stands(String text, int items) {
        stands(Given.people(0, 0, 2), text, items);
    }

    private static void fault(String text, int at) {
        fault(Given.people(0, 0, 2), text, at);
    }

    private static void school() {
        DUE.of("Promise 14", "A SCHOOL by the ROW in SHELF s: how many ITEMS");
        for (int sort = 0; sort < 4; sort++) {
            ThirdEvening x = new ThirdEvening();
            Given.text(x, 7 - sort, sort, "person 3 4 9 1;person 06 00 20 0;friend 1 0;level 15;rain 3;chairs 12;bar 10;gone 0");
            DUE.is("school by SORT " + sort, x.school(7 - sort), 8);
            DUE.is("fault()", x.fault(), -1);
            int[][] are = {{3, 4, 9, 1, 0, 0, 0, 1}, {6, 0, 20, 0, 0, 0, 0, 0}};
            for (int what = 0; what < 8; what++) {
                DUE.is("personOf(0, " + what + ")", x.personOf(0, what), are[0][what]);
                DUE.is("personOf(1, " + what + ")", x.personOf(1, what), are[1][what]);
            }
            DUE.is("friend(1, -1)", x.friend(1, -1), 0);
            int[] is = {2, 15, 3, 12, 10, 0, 1};
            for (int what = 0; what < 7; what++) {
                DUE.is("status(" + what + ")", x.status(what), is[what]);
            }
        }
    }

    private static String times(String item, int n) {
        StringBuilder all = new StringBuilder(item);
        for (int i = 1; i < n; i++) {
            all.append(';').append(item);
        }
        return all.toString();
    }

    private static void items() {
        DUE.of(SCHOOL, "A SCHOOL is read from a ROW of letters: ITEM, then any number of times ; and ITEM");
        fault("", 0);
        stands("bar 1", 1);
        fault("bar 1;", 6);
        fault(";bar 1", 0);
        fault("bar 1;;bar 2", 6);
        fault("bar 1;;x", 6);
        fault("ba;bar x", 2);
        stands("bar 1;bar 2", 2);
        fault("bar 1,bar 2", 5);
        fault("bar 1bar 2", 5);
        fault("bar 1;bar 2;", 12);
        String most = times("bar 0", 26);
        stands(most, 26);
        DUE.is("letters of 26 ITEMS", most.length(), 155);
        stands(most.replaceFirst("(bar 0;){5}", "bar 00;bar 01;bar 02;bar 03;bar 04;"), 26);
        fault(most + ";bar ", 160);
    }

    private static void itemsOfPeople() {
        DUE.of(SCHOOL, "person K A O P (P 1: PAID, 0: not)");
        ThirdEvening x = new ThirdEvening();
        stands(x, "person 0 0 0 0;person 6 9 20 1", 2);
        int[][] are = {{0, 0, 0, 0}, {6, 9, 20, 1}};
        for (int what = 0; what < 4; what++) {
            DUE.is("personOf(0, " + what + ")", x.personOf(0, what), are[0][what]);
            DUE.is("personOf(1, " + what + ")", x.personOf(1, what), are[1][what]);
        }
        fault("person 7 0 0 0", 7);
        fault("person 0 10 0 0", 9);
        fault("person 0 0 21 0", 11);
        fault("person 0 0 0 2", 13);
        fault("person 0 0 0 0 0", 14);
        fault("person 0 0 0;bar 1", 12);
        fault("person 1 2 3 1;person 7 0 0 0", 22);
    }

    private static void itemsOfFriends() {
        DUE.of(SCHOOL, "friend X Y (unlike; his FRIEND is Y)");
        ThirdEvening x = Given.people(0, 0, 3);
        stands(x, "friend 2 0;friend 0 2", 2);
        DUE.is("friend(0, -1)", x.friend(0, -1), 2);
        DUE.is("friend(1, -1)", x.friend(1, -1), -1);
        DUE.is("friend(2, 1)", x.friend(2, 1), 0);
        stands(x, "friend 2 0", 1);
        DUE.is("friend(2, -1) over another", x.friend(2, -1), 0);
        fault(x, "friend 0 0", 9);
        fault(x, "friend 2 02", 9);
        fault(x, "friend 3 0", 7);
        fault(x, "friend 0 3", 9);
        fault(x, "friend 3 3", 7);
        fault(x, "friend 0;bar 1", 8);
        fault(x, "friend 0 1 2", 10);
        fault(Given.people(0, 0, 1), "friend 0 1", 9);
        fault(new ThirdEvening(), "friend 0 1", 7);
    }

    private static void itemsOfSettings() {
        DUE.of(SCHOOL, "level N");
        edgesOfItems(0);
        DUE.of(SCHOOL, "rain N");
        edgesOfItems(1);
        DUE.of(SCHOOL, "chairs N");
        edgesOfItems(2);
        DUE.of(SCHOOL, "bar N");
        edgesOfItems(3);
    }

    private static void edgesOfItems(int what) {
        ThirdEvening x = new ThirdEvening();
        String word = WORDS[what] + " ";
        stands(x, word + MOST[what], 1);
        DUE.is("status(" + (what + 1) + ")", x.status(what + 1), MOST[what]);
        fault(x, word + (MOST[what] + 1), word.length());
        fault(x, word + "99", word.length());
        stands(x, word + LEAST[what], 1);
        DUE.is("status(" + (what + 1) + ")", x.status(what + 1), LEAST[what]);
        if (LEAST[what] == 1) {
            fault(x, word + "0", word.length());
            fault(x, word + "00", word.length());
            fault(x, word + "0;bar 1", word.length());
        }
        fault(x, word + "-1", word.length());
        fault(x, word + "1 1", word.length() + 1);
    }

    private static void itemsOfGone() {
        DUE.of(SCHOOL, "gone X.");
        ThirdEvening x = Given.people(0, 0, 3);
        stands(x, "gone 2;gone 0", 2);
        DUE.is("personOf(0, 7)", x.personOf(0, 7), 1);
        DUE.is("personOf(1, 7)", x.personOf(1, 7), 0);
        DUE.is("personOf(2, 7)", x.personOf(2, 7), 1);
        stands(x, "gone 2", 1);
        DUE.is("personOf(2, 7) still", x.personOf(2, 7), 1);
        fault(x, "gone 3", 5);
        fault(x, "gone 10", 5);
        fault(x, "gone 0 1", 6);
        fault(new ThirdEvening(), "gone 0", 5);
        x.ask(1, 9);
        x.ask(0, 20);
        x.evenings(1);
        stands(x, "gone 1", 1);
        DUE.is("personOf(1, 5): MISSED stays", x.personOf(1, 5), 1);
        ThirdEvening ten = Given.people(0, 0, 10);
        stands(ten, "gone 9", 1);
        fault(ten, "gone 10", 5);
    }

    private static void blanks() {
        DUE.of(SCHOOL, "One blank between words and NUMBERS");
        fault("bar1", 3);
        fault("bar  1", 4);
        fault("bar\t1", 3);
        fault(" bar 1", 0);
        fault("bar 1 ", 5);
        fault("bar 1 ;bar 2", 5);
        fault("bar 1; bar 2", 6);
        fault("friend 01", 9);
        fault("friend 0  1", 9);
        fault("friend0 1", 6);
        fault("person 0 0 0 0 ", 14);
    }

    private static void digits() {
        DUE.of(SCHOOL, "(1 to 2 digits)");
        fault("bar ", 4);
        fault("bar x", 4);
        fault("bar ;bar 1", 4);
        stands("bar 1", 1);
        stands("bar 01", 1);
        stands("bar 10", 1);
        fault("bar 101", 6);
        fault("bar 001", 6);
        fault("bar /", 4);
        fault("bar :", 4);
        fault("bar 1/", 5);
        fault("bar 1:", 5);
        stands("friend 01 00;person 06 09 20 01;level 09;rain 09;chairs 01;gone 01", 6);
    }

    private static void overWhatThereIs() {
        DUE.of(SCHOOL, "All is told over what there is");
        ThirdEvening x = Given.people(1, 1, 2);
        x.ask(0, 3);
        x.ask(1, 4);
        stands(x, "person 0 0 0 0;person 0 0 0 0;friend 3 2;friend 3 0;bar 5;bar 6;friend 1 3", 7);
        DUE.is("status(0)", x.status(0), 4);
        DUE.is("personOf(0, 0) stays", x.personOf(0, 0), 1);
        DUE.is("LEVEL stays", x.status(1), 3);
        DUE.is("RAIN stays", x.status(2), 4);
        DUE.is("the last BAR", x.status(4), 6);
        DUE.is("the last FRIEND", x.friend(3, -1), 0);
        DUE.is("FRIEND of one who was there", x.friend(1, -1), 3);
        stands(x, "friend 3 2", 1);
        stands(x, "friend 3 2", 1);
        DUE.is("FRIEND once more", x.friend(3, -1), 2);
        x.evenings(2);
        x.seed(9);
        stands(x, "level 8", 1);
        DUE.is("EVENING stays", x.status(5), 2);
        DUE.is("SEED stays", x.status(8), 9);
        DUE.is("COMINGS stay", x.personOf(0, 6), 2);
    }

    private static void orNothing() {
        DUE.of(SCHOOL, "or nothing");
        ThirdEvening x = Given.people(1, 1, 2);
        x.friend(0, 1);
        String before = Given.state(x);
        String told = "person 1 1 1 1;rain 5;friend 2 0;friend 0 2;gone 1;level 1;chairs 1;bar 1";
        fault(x, told + ";", 74);
        fault(x, told + ";x", 74);
        fault(x, told + ";bar 11", 78);
        fault(x, told + "1", 72);
        DUE.same("all is as it was", Given.state(x), before);
        DUE.is("FRIEND is as he was", x.friend(0, 1), 1);
        DUE.is("the next number", x.person(2, 0, 0, false), 2);
        DUE.is("who has no FRIEND", x.friend(2, -1), -1);
        DUE.is("and isn't PAID", x.personOf(2, 3), 0);
    }

    private static void room() {
        DUE.of(SCHOOL, "(what there is no room for can't stand: its word, once that is whole)");
        ThirdEvening x = Given.people(0, 0, 8);
        fault(x, "rain 1;person 0 0 8 1;person 0 0 8 1;person 0 0 8 1", 37);
        stands(x, "rain 1;person 0 0 8 1;person 0 0 8 1", 3);
        DUE.is("status(0)", x.status(0), 10);
        fault(x, "person 0 0 8 1", 0);
        fault(x, "person", 0);
        fault(x, "rain 1;person", 7);
        fault(x, "rain 10;person", 5);
        stands(x, "friend 0 9;friend 9 0;gone 9;level 1;rain 1;chairs 1;bar 1", 7);
        DUE.is("status(17)", x.status(17), 0);
    }

    private static void roomIsAskedWhenTheLettersStand() {
        DUE.of("Details", "Whether there is room for a word is asked when its letters stand whole");
        ThirdEvening x = Given.people(0, 0, 10);
        fault(x, "person", 0);
        fault(x, "personx", 0);
        fault(x, "person 7", 0);
        fault(x, "bar 1;person", 6);
        DUE.of("Details", "until then the first element that is not as it is the FAULT");
        fault(x, "x", 0);
        fault(x, "px", 1);
        fault(x, "persox", 5);
        fault(x, "bar 1;perso ", 11);
        DUE.of("Details", "or the number of elements");
        fault(x, "p", 1);
        fault(x, "perso", 5);
        fault(x, "bar 1;perso", 11);
    }

    private static void faultsOfLetters() {
        DUE.of(SCHOOL, "The FAULT: the first place at which an element can't stand as such texts go on");
        fault("x", 0);
        fault("Level 1", 0);
        String[] words = {"person", "friend", "level", "rain", "chairs", "bar", "gone"};
        for (String word : words) {
            for (int i = 0; i < word.length(); i++) {
                fault(word.substring(0, i) + "x" + word.substring(i + 1) + " 1", i);
            }
            fault(word + "x 1", word.length());
            fault("bar 1;" + word + "s 1", 6 + word.length());
        }
        fault("level 1x", 7);
        fault("level 1 1", 7);
        fault("level 123", 8);
        fault("person 0x0 0 0", 8);
        fault("person 0 0 0 0x", 14);
        fault("friend 0 1x", 10);
    }

    private static void faultsOfEnds() {
        DUE.of(SCHOOL, "(the number of elements, if it ends too early)");
        String whole = "person 1 1 1 1;friend 1 0;level 1;rain 1;chairs 1;bar 1;gone 1";
        int last = 0;
        for (int n = 0; n < whole.length(); n++) {
            boolean stands = n > 0 && (whole.charAt(n) == ';');
            if (stands) {
                last++;
                stands(whole.substring(0, n), last);
            } else {
                fault(whole.substring(0, n), n);
            }
        }
        stands(whole, 7);
    }

    private static void faultsOfNumbers() {
        DUE.of(SCHOOL, "of a NUMBER that may not be the place of its first digit");
        fault("level 21", 6);
        fault("level 211", 6);
        fault("level 21;x", 6);
        fault("level 21x", 6);
        fault("rain 10", 5);
        fault("rain 90", 5);
        fault("chairs 13", 7);
        fault("chairs 0", 7);
        fault("chairs 0x", 7);
        fault("chairs 00", 7);
        fault("bar 11", 4);
        fault("gone 2;x", 5);
        fault("gone 20", 5);
        fault("friend 2 0", 7);
        fault("friend 0 2", 9);
        fault("friend 1 1", 9);
        fault("friend 1 01", 9);
        fault("friend 01 01", 10);
        fault("person 7 0 0 0", 7);
        fault("person 10 0 0 0", 7);
        fault("person 07 0 0 0", 7);
        fault("person 6 10 0 0", 9);
        fault("person 6 9 21 0", 11);
        fault("person 6 9 20 2", 14);
        fault("person 6 9 20 10", 14);
        fault("person 0 0 0 0;gone 3", 20);
        stands("person 0 0 0 0;gone 2", 2);
        fault("gone 2;person 0 0 0 0", 5);
        fault(new ThirdEvening(), "person 0 0 0 0;friend 0 0", 24);
        fault(new ThirdEvening(), "person 0 0 0 0;friend 0 1", 24);
    }

    private static void theFirstFault() {
        DUE.of("Promise 14", "-6 a FAULT");
        ThirdEvening x = Given.people(0, 0, 2);
        fault(x, "bar 99;rain 99", 4);
        fault(x, "bar 9;rain 99;x", 11);
        DUE.is("status(16)", x.status(16), 2);
        fault(x, "bar 9x;rain 99", 5);
        DUE.is("status(16)", x.status(16), 3);
        stands(x, "bar 9", 1);
        DUE.is("status(16) still", x.status(16), 3);
    }

    private static void faultOfTheLatest() {
        ThirdEvening x = Given.people(0, 0, 1);
        Given.text(x, 0, 0, "bar 77");
        Given.text(x, 1, 0, "bar 7");
        x.show(3, 0);
        DUE.of("Promise 15", "none yet");
        DUE.is("fault() of a new object", new ThirdEvening().fault(), -1);
        x.school(2);
        DUE.is("fault() behind a school() that came to no ROW", x.fault(), -1);
        DUE.of("Promise 15", "The FAULT of the latest school() that came to a ROW");
        x.school(0);
        DUE.is("fault()", x.fault(), 4);
        DUE.is("school() of NOTHING", x.school(2), -3);
        DUE.is("fault() still", x.fault(), 4);
        DUE.is("school() of a person", x.school(3), -2);
        DUE.is("fault() still", x.fault(), 4);
        DUE.is("school() of no SHELF", x.school(8), -1);
        DUE.is("fault() still", x.fault(), 4);
        x.row(0, 0, 0);
        DUE.is("fault() behind row()", x.fault(), 4);
        x.school(0);
        DUE.is("fault() of no elements", x.fault(), 0);
        DUE.of("Promise 15", "NONE: there was none, or");
        x.school(1);
        DUE.is("fault() behind a text that stands", x.fault(), -1);
    }
}
