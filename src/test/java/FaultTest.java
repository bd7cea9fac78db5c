import java.util.ArrayList;
import java.util.HashSet;
import java.util.List;
import java.util.Set;

/**
 * Promises 14 and 15: the FAULT of texts that differ by a sign from such as stand. What is due is not read as the
 * class reads it, but by the definition: the first place behind which a text is no beginning of any that stands.
 */
final class FaultTest {
    private static final Due DUE = new Due("FaultTest");
    private static final String SIGNS = "pgex ;0129\0";
    private static final String[] TEXTS = {
        "person 6 9 20 1;person 1 0 3 0", "friend 0 1;friend 1 0", "level 20;level 9;gone 1", "rain 9;rain 01;bar 10",
        "chairs 12;chairs 1", "gone 0;person 0 0 0 0;gone 2", "bar 0;person 02 08 19 01",
    };
    private static final String[][] NUMBERS_OF_PERSON = {numbers(0, 6), numbers(0, 9), numbers(0, 20), numbers(0, 1)};

    // The ITEMS that stand where there are so many PEOPLE, and all that these begin with.
    private static final List<Set<String>> WHOLE = new ArrayList<>();
    private static final List<Set<String>> BEGUN = new ArrayList<>();

    public static void main(String[] args) {
        for (int people = 0; people <= 10; people++) {
            WHOLE.add(items(people));
            BEGUN.add(beginnings(people));
        }
        DUE.of("Promise 15", "The FAULT of the latest school() that came to a ROW");
        int[] counts = {0, 1, 2, 3, 8, 9, 10};
        for (int count : counts) {
            for (String text : TEXTS) {
                changesOf(text, count);
            }
        }
        DUE.end();
    }

    private static void changesOf(String text, int people) {
        asks(text, people);
        for (int i = 0; i <= text.length(); i++) {
            String head = text.substring(0, i);
            String tail = text.substring(i);
            String next = tail.isEmpty() ? tail : tail.substring(1);
            asks(head, people);
            asks(head + next, people);
            for (char sign : SIGNS.toCharArray()) {
                asks(head + sign + tail, people);
                asks(head + sign + next, people);
                asks(head + sign, people);
            }
        }
    }

    private static void asks(String text, int people) {
        ThirdEvening x = Given.people(0, 0, people);
        Given.text(x, 0, 0, text);
        int fault = faultOf(text, people);
        DUE.is("school of \"" + text + "\" by " + people, x.school(0), fault >= 0 ? -6 : text.split(";").length);
        DUE.is("fault() of \"" + text + "\" by " + people, x.fault(), fault);
    }

    // ---- the definition

    private static int faultOf(String text, int people) {
        int start = 0;
        int all = people;
        while (true) {
            int end = text.indexOf(';', start);
            String item = text.substring(start, end < 0 ? text.length() : end);
            if (!WHOLE.get(all).contains(item)) {
                return start + faultOfItem(item, all, end >= 0);
            }
            if (end < 0) {
                return -1;
            }
            all += item.startsWith("person") ? 1 : 0;
            start = end + 1;
        }
    }

    private static int faultOfItem(String item, int people, boolean goesOn) {
        if (people == 10 && item.startsWith("person")) {
            return 0;
        }
        int at = 0;
        while (at < item.length() && BEGUN.get(people).contains(item.substring(0, at + 1))) {
            at++;
        }
        boolean digit = at < item.length() && isDigit(item, at);
        boolean oneAhead = isDigit(item, at - 1) && !isDigit(item, at - 2);
        boolean mayNotBe = oneAhead && (digit || !mayStand(item.substring(0, at), people));
        return mayNotBe ? at - 1 : at;
    }

    private static boolean isDigit(String item, int at) {
        return at >= 0 && item.charAt(at) >= '0' && item.charAt(at) <= '9';
    }

    // Whether the NUMBER that ends here may be: there is an ITEM with it.
    private static boolean mayStand(String item, int people) {
        return WHOLE.get(people).contains(item) || BEGUN.get(people).contains(item + " ");
    }

    // ---- what stands

    private static String[] numbers(int least, int most) {
        List<String> all = new ArrayList<>();
        for (int v = least; v <= most; v++) {
            all.add(Integer.toString(v));
            if (v < 10) {
                all.add("0" + v);
            }
        }
        return all.toArray(new String[0]);
    }

    private static Set<String> items(int people) {
        Set<String> all = new HashSet<>();
        String[] words = {"level", "rain", "chairs", "bar", "gone"};
        int[] least = {0, 0, 1, 0, 0};
        int[] most = {20, 9, 12, 10, people - 1};
        for (int i = 0; i < words.length; i++) {
            for (String v : numbers(least[i], most[i])) {
                all.add(words[i] + " " + v);
            }
        }
        for (String one : numbers(0, people - 1)) {
            for (String other : numbers(0, people - 1)) {
                if (Integer.parseInt(one) != Integer.parseInt(other)) {
                    all.add("friend " + one + " " + other);
                }
            }
        }
        if (people < 10) {
            addPerson(all, "person", 0);
        }
        return all;
    }

    private static void addPerson(Set<String> all, String begun, int slot) {
        for (String v : NUMBERS_OF_PERSON[slot]) {
            String more = begun + " " + v;
            if (slot == 3) {
                all.add(more);
            } else {
                addPerson(all, more, slot + 1);
            }
        }
    }

    // A word stands, and X of a FRIEND, even where there is nobody for the NUMBER behind it.
    private static Set<String> beginnings(int people) {
        Set<String> all = new HashSet<>();
        for (String item : WHOLE.get(people)) {
            addBeginnings(all, item);
        }
        addBeginnings(all, "person");
        addBeginnings(all, "friend ");
        addBeginnings(all, "gone ");
        for (String one : numbers(0, people - 1)) {
            addBeginnings(all, "friend " + one + " ");
        }
        return all;
    }

    private static void addBeginnings(Set<String> all, String text) {
        for (int n = 1; n <= text.length(); n++) {
            all.add(text.substring(0, n));
        }
    }
}
