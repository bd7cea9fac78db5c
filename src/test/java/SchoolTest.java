/** Promises 9 to 15: PEOPLE, what stands about them, and texts. */
final class SchoolTest {
    private static final Due DUE = new Due("SchoolTest");

    public static void main(String[] args) {
        person();
        friend();
        ask();
        go();
        personOf();
        school();
        schoolOverWhatThereIs();
        schoolRefused();
        faultsOfLetters();
        faultsOfNumbers();
        faultsOfRoom();
        faultIsOfTheLatest();
        DUE.end();
    }

    private static void person() {
        ThirdEvening x = new ThirdEvening();
        DUE.is("9 the least", x.person(0, 0, 0, false), 0);
        DUE.is("9 the most", x.person(6, 9, 20, true), 1);
        int[] is = {6, 9, 20, 1, 0, 0, 0, 0};
        for (int what = 0; what < 8; what++) {
            DUE.is("9 mark " + what, x.personOf(1, what), is[what]);
        }
        DUE.is("9 no friend", x.friend(1, -1), -1);
        DUE.is("9 no kind first", x.person(7, 10, 21, true), -1);
        DUE.is("9 kind below", x.person(-1, 0, 0, true), -1);
        DUE.is("9 a above", x.person(0, 10, 0, true), -6);
        DUE.is("9 a below", x.person(0, -1, 0, true), -6);
        DUE.is("9 own above", x.person(0, 0, 21, true), -6);
        DUE.is("9 own below", x.person(0, 0, -1, true), -6);
        for (int i = 2; i < 10; i++) {
            DUE.is("9 one more", x.person(i % 7, i, i, false), i);
        }
        DUE.is("9 wrong ahead of room", x.person(0, 10, 0, false), -6);
        DUE.is("9 room", x.person(0, 0, 0, false), -7);
        DUE.is("9 ten", x.status(0), 10);
        DUE.is("9 counted", x.status(11) * 100 + x.status(16) * 10 + x.status(17), 251);
    }

    private static void friend() {
        ThirdEvening x = new ThirdEvening();
        for (int i = 0; i < 3; i++) {
            x.person(0, 0, 8, false);
        }
        DUE.is("10 first", x.friend(0, 1), -1);
        DUE.is("10 then", x.friend(0, 2), 1);
        DUE.is("10 nobody", x.friend(0, -1), 2);
        DUE.is("10 nobody again", x.friend(0, -1), -1);
        DUE.is("10 one sided", x.friend(2, -1), -1);
        DUE.is("10 no such", x.friend(3, 0), -11);
        DUE.is("10 no other", x.friend(0, 3), -11);
        DUE.is("10 no other below", x.friend(0, -2), -11);
        DUE.is("10 nobody of nobody", x.friend(-1, -1), -11);
        DUE.is("10 no such himself", x.friend(3, 3), -11);
        DUE.is("10 himself", x.friend(1, 1), -16);
        DUE.is("10 counted", x.status(11) * 10 + x.status(16), 51);
    }

    private static void ask() {
        ThirdEvening x = new ThirdEvening();
        int[] first = {8, 0, 8, 3};
        int[] most = {20, 9, 12, 10};
        int[] least = {0, 0, 1, 0};
        for (int what = 0; what < 4; what++) {
            DUE.is("11 to the most", x.ask(what, most[what]), first[what]);
            DUE.is("11 above", x.ask(what, most[what] + 1), -6);
            DUE.is("11 to the least", x.ask(what, least[what]), most[what]);
            DUE.is("11 below", x.ask(what, least[what] - 1), -6);
            DUE.is("11 it is", x.status(what + 1), least[what]);
        }
        DUE.is("11 no such", x.ask(4, 1), -6);
        DUE.is("11 no such with 0", x.ask(4, 0), -6);
        DUE.is("11 no such below", x.ask(-1, 1), -6);
        DUE.is("11 no such below with 0", x.ask(-1, 0), -6);
        DUE.is("11 counted", x.status(16), 12);
    }

    private static void go() {
        ThirdEvening x = new ThirdEvening();
        x.person(0, 0, 20, true);
        x.person(0, 0, 8, true);
        x.ask(0, 0);
        x.ask(1, 9);
        x.evenings(2);
        DUE.is("12 missed", x.personOf(0, 5), 2);
        DUE.is("12 go", x.go(0, true), 0);
        DUE.is("12 missed still", x.personOf(0, 5), 2);
        DUE.is("12 gone", x.personOf(0, 7), 1);
        DUE.is("12 go on", x.go(0, true), 1);
        DUE.is("12 back", x.go(0, false), 1);
        DUE.is("12 not gone", x.personOf(0, 7), 0);
        DUE.is("12 missed none", x.personOf(0, 5), 0);
        DUE.is("12 behind stays", x.personOf(0, 4), 2);
        x.evenings(1);
        DUE.is("12 missed one", x.personOf(0, 5), 1);
        DUE.is("12 wasn't gone", x.go(0, false), 0);
        DUE.is("12 missed none again", x.personOf(0, 5), 0);
        DUE.is("12 no such", x.go(2, true), -1);
        DUE.is("12 no such below", x.go(-1, false), -1);
        DUE.is("12 counted", x.status(11), 2);
    }

    private static void personOf() {
        ThirdEvening x = new ThirdEvening();
        x.person(4, 3, 19, true);
        x.person(1, 9, 19, false);
        x.ask(0, 20);
        // slow: 12 - 0 + 4 - 3 - 0 = 13
        x.evenings(2);
        int[] is = {4, 3, 20, 1, 0, 0, 2, 0};
        for (int what = 0; what < 8; what++) {
            DUE.is("13 mark " + what, x.personOf(0, what), is[what]);
        }
        DUE.is("13 not paid", x.personOf(1, 3), 0);
        DUE.is("13 no such", x.personOf(2, 0), -5);
        DUE.is("13 no such below", x.personOf(-1, 0), -5);
        DUE.is("13 another what", x.personOf(0, 8), -5);
        DUE.is("13 another what below", x.personOf(0, -1), -5);
        DUE.is("13 counted", x.status(15), 4);
    }

    private static void school() {
        for (int sort = 0; sort < 4; sort++) {
            ThirdEvening x = new ThirdEvening();
            Due.text(x, 2, sort, "person 3 4 9 1;person 06 00 20 0;friend 1 0;level 15;rain 3;chairs 12;bar 10;gone 0");
            DUE.is("14 school", x.school(2), 8);
            DUE.is("15 no fault", x.fault(), -1);
            int[] one = {3, 4, 9, 1, 0, 0, 0, 1};
            int[] two = {6, 0, 20, 0, 0, 0, 0, 0};
            for (int what = 0; what < 8; what++) {
                DUE.is("14 mark " + what, x.personOf(0, what), one[what]);
                DUE.is("14 mark of the second " + what, x.personOf(1, what), two[what]);
            }
            DUE.is("14 friend", x.friend(1, -1), 0);
            int[] is = {2, 15, 3, 12, 10, 0, 1};
            for (int what = 0; what < 7; what++) {
                DUE.is("14 status " + what, x.status(what), is[what]);
            }
        }
    }

    private static void schoolOverWhatThereIs() {
        ThirdEvening x = new ThirdEvening();
        x.person(0, 1, 2, true);
        x.person(1, 1, 2, true);
        Due.text(x, 0, 0, "friend 0 1");
        DUE.is("14 over", x.school(0), 1);
        DUE.is("14 once more", x.school(0), 1);
        DUE.is("14 friend", x.friend(0, 1), 1);
        Due.text(x, 0, 0, "level 1;level 2;person 0 0 0 0;person 0 0 0 0;friend 3 2;friend 3 0");
        DUE.is("14 the last tells", x.school(0), 6);
        DUE.is("14 level", x.status(1), 2);
        DUE.is("14 people", x.status(0), 4);
        DUE.is("14 friend of three", x.friend(3, -1), 0);
        Due.text(x, 0, 0, "person 1 1 1 1;rain 5;friend 4 0;gone 1;rainy");
        DUE.is("14 all or nothing", x.school(0), -6);
        DUE.is("14 nobody more", x.status(0), 4);
        DUE.is("14 no rain", x.status(2), 0);
        DUE.is("14 not gone", x.personOf(1, 7), 0);
        DUE.is("14 next number", x.person(2, 0, 0, false), 4);
        DUE.is("14 no friend left", x.friend(4, -1), -1);
    }

    private static void schoolRefused() {
        ThirdEvening x = new ThirdEvening();
        x.person(0, 0, 0, false);
        x.show(1, 0);
        DUE.is("14 no shelf", x.school(8), -1);
        DUE.is("14 no shelf below", x.school(-1), -1);
        DUE.is("14 a person", x.school(1), -2);
        DUE.is("14 nothing", x.school(0), -3);
        DUE.is("15 none yet", x.fault(), -1);
        DUE.is("14 counted", x.status(11) * 100 + x.status(12) * 10 + x.status(13), 211);
    }

    private static void fault(String text, int want) {
        ThirdEvening x = new ThirdEvening();
        x.person(0, 0, 8, false);
        x.person(0, 0, 8, false);
        Due.text(x, 0, 1, text);
        String before = Due.state(x);
        int answer = x.school(0);
        DUE.is("14 school of " + text, answer < 0 ? answer : 0, want == -1 ? 0 : -6);
        DUE.is("15 fault of " + text, x.fault(), want);
        DUE.is("14 counted " + text, x.status(16), want == -1 ? 0 : 1);
        if (want != -1) {
            DUE.is("14 nothing changed by " + text, Due.state(x).equals(before) ? 1 : 0, 1);
        }
    }

    private static void faultsOfLetters() {
        fault("", 0);
        fault("x", 0);
        fault(" level 1", 0);
        fault("Level 1", 0);
        fault(";level 1", 0);
        fault("lev", 3);
        fault("lexel 1", 2);
        fault("level", 5);
        fault("level1", 5);
        fault("level ", 6);
        fault("level  1", 6);
        fault("level x", 6);
        fault("level -1", 6);
        fault("level 1", -1);
        fault("level 1 ", 7);
        fault("level 1;", 8);
        fault("level 1;;", 8);
        fault("level 1; bar 1", 8);
        fault("level 1;bar 1;q", 14);
        fault("level 1x", 7);
        fault("level 123", 8);
        fault("friend 0", 8);
        fault("friend 0;", 8);
        fault("friend 0 ", 9);
        fault("friend 0 1", -1);
        fault("friend 0 1 ", 10);
        fault("person 0 0 0", 12);
        fault("person 0 0 0;", 12);
        fault("person 0 0 0 0 0", 14);
        fault("rain 1;chairs 1;bar 1;gone 1", -1);
    }

    private static void faultsOfNumbers() {
        fault("level 20", -1);
        fault("level 21", 6);
        fault("level 211", 6);
        fault("rain 9", -1);
        fault("rain 10", 5);
        fault("chairs 12", -1);
        fault("chairs 13", 7);
        fault("chairs 0", 7);
        fault("chairs 00", 7);
        fault("chairs 01", -1);
        fault("bar 10", -1);
        fault("bar 11", 4);
        fault("gone 1", -1);
        fault("gone 01", -1);
        fault("gone 2", 5);
        fault("gone 10", 5);
        fault("gone 2;x", 5);
        fault("friend 0 2;x", 9);
        fault("friend 1 1;x", 9);
        fault("level 21;x", 6);
        fault("person 0 0 21 0;x", 11);
        fault("friend 2 0", 7);
        fault("friend 0 2", 9);
        fault("friend 1 1", 9);
        fault("friend 1 01", 9);
        fault("friend 01 0", -1);
        fault("person 7 0 0 0", 7);
        fault("person 10 0 0 0", 7);
        fault("person 6 10 0 0", 9);
        fault("person 6 9 21 0", 11);
        fault("person 6 9 20 2", 14);
        fault("person 6 9 20 10", 14);
        fault("person 06 09 20 01", -1);
        fault("person 0 0 0 0;gone 2", -1);
        fault("gone 2;person 0 0 0 0", 5);
        ThirdEvening x = new ThirdEvening();
        Due.text(x, 0, 0, "gone 0");
        DUE.is("14 gone without people", x.school(0), -6);
        DUE.is("15 gone without people", x.fault(), 5);
        Due.text(x, 0, 0, "person 0 0 0 0;friend 0 0");
        DUE.is("14 one alone", x.school(0), -6);
        DUE.is("15 one alone", x.fault(), 24);
        x.row(0, 3, 5);
        String bar = "bar 7";
        for (int i = 0; i < 5; i++) {
            x.set(0, i, bar.charAt(i) + (1L << 32 + i));
        }
        DUE.is("14 of longs the lowest 32 bits", x.school(0), 1);
        x.set(0, 2, 'r' + (1L << 16));
        DUE.is("14 not the lowest 16 bits", x.school(0), -6);
        DUE.is("15 not the lowest 16 bits", x.fault(), 2);
    }

    private static void faultsOfRoom() {
        ThirdEvening x = new ThirdEvening();
        for (int i = 0; i < 9; i++) {
            x.person(0, 0, 8, false);
        }
        Due.text(x, 0, 0, "rain 1;person 0 0 8 1;person 0 0 8 1");
        DUE.is("14 no room for the second", x.school(0), -6);
        DUE.is("15 its word", x.fault(), 22);
        x.person(0, 0, 8, false);
        String[] texts = {"person 0 0 8 1", "person", "perso", "persox", "personx"};
        int[] faults = {0, 0, 5, 5, 0};
        for (int i = 0; i < texts.length; i++) {
            Due.text(x, 0, 0, texts[i]);
            DUE.is("14 " + texts[i], x.school(0), -6);
            DUE.is("15 " + texts[i], x.fault(), faults[i]);
        }
        DUE.is("14 no -7", x.status(17), 0);
    }

    private static void faultIsOfTheLatest() {
        ThirdEvening x = new ThirdEvening();
        Due.text(x, 0, 0, "bar 77");
        Due.text(x, 1, 0, "bar 7");
        x.school(0);
        DUE.is("15 fault", x.fault(), 4);
        x.school(2);
        DUE.is("15 it came to no row", x.fault(), 4);
        x.image();
        x.restore();
        DUE.is("15 the image doesn't have it", x.fault(), 4);
        x.school(1);
        DUE.is("15 there was none", x.fault(), -1);
    }
}
