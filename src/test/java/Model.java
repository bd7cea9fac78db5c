import java.util.ArrayList;
import java.util.HashSet;
import java.util.List;
import java.util.Set;

/**
 * The document once more, in the plainest way and without care for speed or memory: KINDS are
 * classes that inherit, a refusal is an exception, a plan is a copy of all. ModelTest asks both.
 */
final class Model {
    static final int NONE = -1;

    static final class Refusal extends RuntimeException {
        private static final long serialVersionUID = 1L;
        final int number;

        Refusal(int number) {
            super("refused", null, false, false);
            this.number = number;
        }
    }

    static class One implements Cloneable {
        int number;
        int kind;
        int a;
        int own;
        boolean paid;
        int friend = NONE;
        int behind;
        int missed;
        int comings;
        boolean gone;
        List<Integer> ran;

        int will(Course c) {
            int w = 12 - c.rain - Math.abs(c.level - own) / 2 - 2 * behind;
            return paid && 4 - c.evening / 3 > 0 ? w + 4 - c.evening / 3 : w;
        }

        int holds() {
            return 3;
        }

        boolean canGo(Course c, Set<Integer> coming) {
            return true;
        }

        int comes(int x) {
            ran.add(10);
            return x + number;
        }

        int sits(int x) {
            ran.add(11);
            return comes(x) * 2;
        }

        int asks(int x) {
            ran.add(12);
            return sits(x) ^ comes(x - a);
        }

        One copy() {
            try {
                return (One) super.clone();
            } catch (CloneNotSupportedException e) {
                throw new IllegalStateException(e);
            }
        }
    }

    static class Eager extends One {
        @Override int will(Course c) {
            return super.will(c) + a;
        }

        @Override int comes(int x) {
            ran.add(20);
            return super.comes(x) + a;
        }
    }

    static class Shy extends One {
        @Override int will(Course c) {
            return super.will(c) - a;
        }

        @Override int sits(int x) {
            ran.add(30);
            return super.sits(x) * 3;
        }
    }

    static class Cheerful extends Eager {
        @Override int will(Course c) {
            return super.will(c) + 2;
        }

        @Override int holds() {
            return 6;
        }

        @Override int comes(int x) {
            ran.add(40);
            return super.comes(x + 1);
        }
    }

    static class Slow extends Shy {
        @Override int will(Course c) {
            return super.will(c) - Math.abs(c.level - own) / 2;
        }

        @Override int asks(int x) {
            ran.add(60);
            return super.asks(x) ^ 5;
        }
    }

    static class Fan extends One {
        @Override int will(Course c) {
            return c.evening % (a + 2) == 0 ? super.will(c) - 20 : super.will(c);
        }

        @Override int asks(int x) {
            ran.add(50);
            return -super.asks(x);
        }

        @Override int comes(int x) {
            ran.add(51);
            return super.comes(x) - number;
        }
    }

    static class Twin extends Cheerful {
        @Override boolean canGo(Course c, Set<Integer> coming) {
            return friend == NONE || coming.contains(friend);
        }

        @Override int comes(int x) {
            ran.add(70);
            return super.comes(x) * 2;
        }

        @Override int sits(int x) {
            ran.add(71);
            return super.sits(x - a);
        }
    }

    static One made(int kind) {
        switch (kind) {
            case 0: return new One();
            case 1: return new Eager();
            case 2: return new Shy();
            case 3: return new Cheerful();
            case 4: return new Slow();
            case 5: return new Fan();
            case 6: return new Twin();
            default: throw new Refusal(-1);
        }
    }

    static final class Course {
        List<One> people = new ArrayList<>();
        int level = 8;
        int rain;
        int chairs = 8;
        int bar = 3;
        int evening;
        int seed = 1;
        // Of EVENINGS gone by since this Course was copied.
        List<Integer> seats = new ArrayList<>();
        List<Integer> turnedAway = new ArrayList<>();

        Course copy() {
            Course c = new Course();
            for (One p : people) {
                c.people.add(p.copy());
            }
            c.level = level;
            c.rain = rain;
            c.chairs = chairs;
            c.bar = bar;
            c.evening = evening;
            c.seed = seed;
            return c;
        }

        Set<Integer> here() {
            Set<Integer> all = new HashSet<>();
            for (One p : people) {
                if (!p.gone) {
                    all.add(p.number);
                }
            }
            return all;
        }

        Set<Integer> coming(Set<Integer> rung) {
            Set<Integer> coming = here();
            while (true) {
                Set<Integer> next = new HashSet<>();
                for (int i : coming) {
                    One p = people.get(i);
                    int w = p.will(this) + (rung.contains(i) ? 4 : 0);
                    if (coming.contains(p.friend)) {
                        w += people.get(p.friend).holds();
                    }
                    if (w > 0 && p.canGo(this, coming)) {
                        next.add(i);
                    }
                }
                if (next.equals(coming)) {
                    return coming;
                }
                coming = next;
            }
        }

        Set<Integer> seated(Set<Integer> coming) {
            Set<Integer> seated = new HashSet<>();
            for (int i = 0; i < people.size(); i++) {
                if (coming.contains(i) && seated.size() < chairs) {
                    seated.add(i);
                }
            }
            return seated;
        }

        int pass(int n) {
            int sum = 0;
            for (int i = 0; i < n; i++) {
                Set<Integer> coming = coming(Set.of());
                Set<Integer> seated = seated(coming);
                seats.add(seated.size());
                turnedAway.add(coming.size() - seated.size());
                sum += seated.size();
                for (One p : people) {
                    if (seated.contains(p.number)) {
                        p.comings++;
                        p.behind = p.behind == 0 ? 0 : p.behind - 1;
                        p.own = p.own == 20 ? 20 : p.own + 1;
                        p.missed = 0;
                    } else if (!p.gone) {
                        p.behind = p.behind == 9 ? 9 : p.behind + 1;
                        p.missed++;
                        p.gone = p.missed >= (p.paid ? 3 : 2);
                    }
                }
                evening++;
            }
            return sum;
        }

        int turned() {
            int sum = 0;
            for (int t : turnedAway) {
                sum += t;
            }
            return sum;
        }
    }

    static int bits(Set<Integer> numbers) {
        int bits = 0;
        for (int i : numbers) {
            bits += 1 << i;
        }
        return bits;
    }

    static Set<Integer> without(Set<Integer> from, Set<Integer> those) {
        Set<Integer> left = new HashSet<>(from);
        left.removeAll(those);
        return left;
    }

    // What a SHELF holds: null, an Integer (a PERSON's number), or a Row.
    static final class Row {
        final int sort;
        final long[] is;

        Row(int sort, int n) {
            this.sort = sort;
            this.is = new long[n];
        }
    }

    Course now = new Course();
    private Course image;
    final Object[] shelves = new Object[8];
    private final int[] refused = new int[8];
    private int latestFault = NONE;
    private List<Integer> ran = new ArrayList<>();

    /** The answer of a call, by its name. */
    long answer(String call, long... g) {
        try {
            return ask(call, g);
        } catch (Refusal r) {
            refused[-r.number]++;
            switch (call) {
                case "friend": case "worst": case "ring": case "judge": return r.number - 10;
                case "will": case "price": return r.number - 1000;
                default: return r.number;
            }
        }
    }

    private long ask(String call, long[] l) {
        int[] g = new int[l.length];
        for (int i = 0; i < g.length; i++) {
            g[i] = (int) l[i];
        }
        switch (call) {
            case "row": return row(g[0], g[1], g[2]);
            case "set": return set(g[0], g[1], l[2]);
            case "copy": return copy(g[0], g[1], g[2], g[3], g[4]);
            case "element": return element(g[0], g[1]);
            case "show": return show(g[0], g[1]);
            case "holds": return holds(g[0]);
            case "says": return says(g[0], g[1]);
            case "person": return person(g[0], g[1], g[2], g[3] == 1);
            case "friend": return friend(g[0], g[1]);
            case "ask": return setting(g[0], g[1]);
            case "go": return go(g[0], g[1] == 1);
            case "personOf": return personOf(g[0], g[1]);
            case "school": return school(g[0]);
            case "fault": return latestFault;
            case "will": return one(g[0]).will(now);
            case "tonight": return tonight(g[0]);
            case "ahead": return ahead(g[0], g[1]);
            case "worst": return worst(g[0], g[1]);
            case "ones": return ones(g[0], g[1], g[2]);
            case "ring": return ring(g[0], g[1]);
            case "begin": return begin(g[0]);
            case "room": return room(g[0]);
            case "take": return take(g[0]);
            case "price": return price(g[0]);
            case "lost": return lost(g[0]);
            case "pairs": return pairs();
            case "chain": return chain(g[0]);
            case "keeps": return keeps(g[0]);
            case "keep": return keep();
            case "friends": return friends(g[0], g[1], g[2]);
            case "judge": return wrongAt(now.copy(), register(g[0], g[1]), g[1]);
            case "evenings": need(g[0] >= 1 && g[0] <= 24, -6); return now.pass(g[0]);
            case "drawn": return drawn(g[0]);
            case "seed": int was = now.seed; now.seed = g[0]; return was;
            case "act": return act(g[0], g[1], g[2]);
            case "trace": return g[0] >= 0 && g[0] < Math.min(20, ran.size()) ? ran.get(g[0]) : NONE;
            case "image": image = now.copy(); return now.people.size();
            case "restore": return restore();
            case "status": return status(g[0]);
            default: throw new IllegalArgumentException(call);
        }
    }

    private static void need(boolean stands, int otherwise) {
        if (!stands) {
            throw new Refusal(otherwise);
        }
    }

    private One one(int i) {
        need(i >= 0 && i < now.people.size(), -1);
        return now.people.get(i);
    }

    private Object shelf(int s) {
        need(s >= 0 && s < 8, -1);
        return shelves[s];
    }

    private Row rowIn(int s) {
        Object o = shelf(s);
        need(!(o instanceof Integer), -2);
        need(o != null, -3);
        return (Row) o;
    }

    private int row(int s, int sort, int n) {
        shelf(s);
        need(n >= 0, -4);
        need(sort >= 0 && sort < 4, -6);
        need(n <= 160, -7);
        shelves[s] = new Row(sort, n);
        return 1;
    }

    private static long cut(int sort, long v) {
        int away = 64 - (8 << sort);
        return v << away >> away;
    }

    private int set(int s, int i, long v) {
        Row r = rowIn(s);
        need(i >= 0 && i < r.is.length, -5);
        r.is[i] = cut(r.sort, v);
        return 1;
    }

    private int copy(int p, int q, int i, int j, int n) {
        Object from = shelf(p);
        Object to = shelf(q);
        need(!(from instanceof Integer) && !(to instanceof Integer), -2);
        need(from == null || to == null || ((Row) from).sort == ((Row) to).sort, -2);
        need(from != null && to != null, -3);
        need(n >= 0, -4);
        long[] a = ((Row) from).is.clone();
        long[] b = ((Row) to).is;
        need(i >= 0 && j >= 0 && i <= a.length - (long) n && j <= b.length - (long) n, -5);
        for (int k = 0; k < n; k++) {
            b[j + k] = a[i + k];
        }
        return 1;
    }

    private long element(int s, int i) {
        if (s < 0 || s > 7 || !(shelves[s] instanceof Row)) {
            return 0;
        }
        long[] is = ((Row) shelves[s]).is;
        return i < 0 || i >= is.length ? 0 : is[i];
    }

    private int show(int s, int person) {
        shelf(s);
        if (person != NONE) {
            one(person);
        }
        shelves[s] = person == NONE ? null : (Object) person;
        return person == NONE ? 0 : 1;
    }

    private int holds(int s) {
        Object o = s < 0 || s > 7 ? null : shelves[s];
        return o == null ? NONE : o instanceof Row ? 100 + ((Row) o).sort : (Integer) o;
    }

    private int says(int s, int kind) {
        Object o = shelf(s);
        Class<?> wanted = made(kind).getClass();
        need(!(o instanceof Row), -2);
        need(o == null || wanted.isInstance(one((Integer) o)), -2);
        need(o != null, -3);
        One p = one((Integer) o);
        int[] words = {p.own, p.comings, p.behind, p.comings, p.behind, p.a, p.comings};
        return words[kind];
    }

    private int person(int kind, int a, int own, boolean paid) {
        One p = made(kind);
        need(a >= 0 && a <= 9 && own >= 0 && own <= 20, -6);
        need(now.people.size() < 10, -7);
        return add(now, p, kind, a, own, paid);
    }

    private static int add(Course c, One p, int kind, int a, int own, boolean paid) {
        p.number = c.people.size();
        p.kind = kind;
        p.a = a;
        p.own = own;
        p.paid = paid;
        c.people.add(p);
        return p.number;
    }

    private int friend(int person, int other) {
        One p = one(person);
        if (other != NONE) {
            one(other);
        }
        need(person != other, -6);
        int was = p.friend;
        p.friend = other;
        return was;
    }

    private int setting(int what, int v) {
        need(what >= 0 && what <= 3 && v >= (what == 2 ? 1 : 0), -6);
        need(v <= (what == 0 ? 20 : what == 1 ? 9 : what == 2 ? 12 : 10), -6);
        int was;
        switch (what) {
            case 0: was = now.level; now.level = v; return was;
            case 1: was = now.rain; now.rain = v; return was;
            case 2: was = now.chairs; now.chairs = v; return was;
            default: was = now.bar; now.bar = v; return was;
        }
    }

    private int go(int person, boolean is) {
        One p = one(person);
        int was = p.gone ? 1 : 0;
        p.gone = is;
        p.missed = is ? p.missed : 0;
        return was;
    }

    private int personOf(int person, int what) {
        need(person >= 0 && person < now.people.size() && what >= 0 && what < 8, -5);
        One p = one(person);
        int[] of = {p.kind, p.a, p.own, p.paid ? 1 : 0, p.behind, p.missed, p.comings, p.gone ? 1 : 0};
        return of[what];
    }

    // ---- texts

    private static final class Fault extends RuntimeException {
        private static final long serialVersionUID = 1L;
        final int at;

        Fault(int at) {
            super("fault", null, false, false);
            this.at = at;
        }
    }

    private int[] letters;
    private int place;

    private int school(int s) {
        Row r = rowIn(s);
        letters = new int[r.is.length];
        for (int i = 0; i < letters.length; i++) {
            letters[i] = (int) r.is[i];
        }
        place = 0;
        Course c = now.copy();
        try {
            int items = 1;
            item(c);
            while (place < letters.length) {
                letters(";");
                item(c);
                items++;
            }
            latestFault = NONE;
            now = c;
            return items;
        } catch (Fault f) {
            latestFault = f.at;
            throw new Refusal(-6);
        }
    }

    private void letters(String word) {
        for (char letter : word.toCharArray()) {
            if (place == letters.length || letters[place] != letter) {
                throw new Fault(place);
            }
            place++;
        }
    }

    private void item(Course c) {
        int start = place;
        int first = place < letters.length ? letters[place] : -1;
        int all = c.people.size();
        if (first == 'p') {
            letters("person");
            if (all == 10) {
                throw new Fault(start);
            }
            int k = number(0, 6, NONE);
            int a = number(0, 9, NONE);
            int o = number(0, 20, NONE);
            add(c, made(k), k, a, o, number(0, 1, NONE) == 1);
        } else if (first == 'f') {
            letters("friend");
            int x = number(0, all - 1, NONE);
            c.people.get(x).friend = number(0, all - 1, x);
        } else if (first == 'l') {
            letters("level");
            c.level = number(0, 20, NONE);
        } else if (first == 'r') {
            letters("rain");
            c.rain = number(0, 9, NONE);
        } else if (first == 'c') {
            letters("chairs");
            c.chairs = number(1, 12, NONE);
        } else if (first == 'b') {
            letters("bar");
            c.bar = number(0, 10, NONE);
        } else if (first == 'g') {
            letters("gone");
            c.people.get(number(0, all - 1, NONE)).gone = true;
        } else {
            throw new Fault(start);
        }
    }

    private int number(int least, int most, int not) {
        letters(" ");
        int start = place;
        StringBuilder digits = new StringBuilder();
        while (place < letters.length && digits.length() < 2 && letters[place] >= '0' && letters[place] <= '9') {
            digits.append((char) letters[place++]);
        }
        if (digits.length() == 0) {
            throw new Fault(start);
        }
        int v = Integer.parseInt(digits.toString());
        if (v < least || v > most || v == not) {
            throw new Fault(start);
        }
        return v;
    }

    // ---- what comes of it

    private int tonight(int what) {
        need(what >= 0 && what < 3, -5);
        Set<Integer> coming = now.coming(Set.of());
        Set<Integer> seated = now.seated(coming);
        return bits(what == 0 ? coming : what == 1 ? seated : without(coming, seated));
    }

    private Course passed(Course c, int n) {
        c.pass(n);
        return c;
    }

    private int ahead(int n, int what) {
        need(what >= 0 && what < 3, -5);
        need(n >= 0 && n <= 24, -6);
        Course c = now.copy();
        int seated = c.pass(n);
        return what == 0 ? c.here().size() : what == 1 ? seated : c.turned();
    }

    private int worst(int n, int what) {
        need(what == 0 || what == 1, -5);
        need(n >= 1 && n <= 24, -6);
        List<Integer> seats = passed(now.copy(), n).seats;
        if (what == 0) {
            return seats.indexOf(java.util.Collections.min(seats));
        }
        for (int i = 0; i < n; i++) {
            if (seats.get(i) < now.bar) {
                return i;
            }
        }
        return NONE;
    }

    private int ones(int person, int n, int what) {
        one(person);
        need(what == 0 || what == 1, -5);
        need(n >= 0 && n <= 24, -6);
        One p = passed(now.copy(), n).people.get(person);
        return what == 0 ? p.comings : p.own;
    }

    private int ring(int k, int what) {
        need(what == 0 || what == 1, -5);
        need(k >= 0 && k <= 3, -6);
        int best = NONE;
        int most = NONE;
        for (int bits = 0; bits < 1024; bits++) {
            Set<Integer> set = new HashSet<>();
            for (int i = 0; i < 10; i++) {
                if ((bits & 1 << i) != 0) {
                    set.add(i);
                }
            }
            if (set.size() == k && now.here().containsAll(set)) {
                int seated = now.seated(now.coming(set)).size();
                if (seated > most) {
                    most = seated;
                    best = bits;
                }
            }
        }
        return what == 0 ? best : most;
    }

    private int begin(int n) {
        need(n >= 0 && n <= 24, -6);
        int best = 20;
        int most = NONE;
        for (int level = 20; level >= 0; level--) {
            Course c = now.copy();
            c.level = level;
            int seated = c.pass(n);
            if (seated >= most) {
                most = seated;
                best = level;
            }
        }
        return best;
    }

    private int room(int n) {
        need(n >= 0 && n <= 24, -6);
        for (int chairs = 1;; chairs++) {
            Course c = now.copy();
            c.chairs = chairs;
            if (passed(c, n).turned() == 0) {
                return chairs;
            }
        }
    }

    private int take(int n) {
        need(n >= 0 && n <= 24, -6);
        int best = NONE;
        int most = NONE;
        for (int m = now.people.size(); m >= 0; m--) {
            Course c = now.copy();
            for (One p : c.people) {
                p.gone |= p.number >= m;
            }
            int left = passed(c, n).here().size();
            if (left >= most) {
                most = left;
                best = m;
            }
        }
        return best;
    }

    private int price(int n) {
        need(n >= 0 && n <= 24, -6);
        Course all = now.copy();
        Course none = now.copy();
        all.people.forEach(p -> p.paid = true);
        none.people.forEach(p -> p.paid = false);
        return all.pass(n) - none.pass(n);
    }

    private int lost(int n) {
        need(n >= 0 && n <= 24, -6);
        return bits(without(now.here(), passed(now.copy(), n).here()));
    }

    private int pairs() {
        int twice = 0;
        for (One p : now.people) {
            if (p.friend != NONE && now.people.get(p.friend).friend == p.number) {
                twice++;
            }
        }
        return twice / 2;
    }

    private int chain(int person) {
        Set<Integer> met = new HashSet<>();
        for (One p = one(person); p.friend != NONE && met.add(p.friend);) {
            p = one(p.friend);
        }
        met.remove(person);
        return met.size();
    }

    private int keeps(int person) {
        need(!one(person).gone, -6);
        Set<Integer> with = without(now.coming(Set.of()), Set.of(person));
        Course c = now.copy();
        c.people.get(person).gone = true;
        return with.size() - c.coming(Set.of()).size();
    }

    private int keep() {
        int best = NONE;
        for (One p : now.people) {
            if (!p.gone && (best == NONE || keeps(p.number) > keeps(best))) {
                best = p.number;
            }
        }
        return best;
    }

    private Row register(int s, int n) {
        Row r = rowIn(s);
        need(n >= 0, -4);
        need(n <= r.is.length, -5);
        need(n <= 24, -6);
        return r;
    }

    private static int wrongAt(Course c, Row r, int n) {
        for (int i = 0; i < n; i++) {
            if ((int) r.is[i] != bits(c.seated(c.coming(Set.of())))) {
                return i;
            }
            c.pass(1);
        }
        return NONE;
    }

    private int friends(int s, int n, int person) {
        shelf(s);
        one(person);
        Row r = register(s, n);
        int all = now.people.size();
        int may = 0;
        for (int other = 0; other <= all; other++) {
            Course c = now.copy();
            c.people.get(person).friend = other == all ? NONE : other;
            if (other != person && wrongAt(c, r, n) == NONE) {
                may += 1 << other;
            }
        }
        return may;
    }

    private int drawn(int n) {
        need(n >= 1 && n <= 24, -6);
        int sum = 0;
        for (int i = 0; i < n; i++) {
            now.seed = (int) (now.seed * 1103515245L + 12345L);
            now.rain = (int) ((now.seed & 0xFFFFFFFFL) / 65536 % 10);
            sum += now.pass(1);
        }
        return sum;
    }

    private int act(int person, int move, int x) {
        ran = new ArrayList<>();
        if (person < 0 || person >= now.people.size() || move < 0 || move > 2) {
            return 0;
        }
        One p = one(person);
        p.ran = ran;
        return move == 0 ? p.comes(x) : move == 1 ? p.sits(x) : p.asks(x);
    }

    private int restore() {
        need(image != null, -6);
        now = image.copy();
        for (int s = 0; s < 8; s++) {
            if (shelves[s] instanceof Integer && (Integer) shelves[s] >= now.people.size()) {
                shelves[s] = null;
            }
        }
        return now.people.size();
    }

    private int status(int what) {
        int comings = 0;
        for (One p : now.people) {
            comings += p.comings;
        }
        int all = now.people.size();
        int[] is = {all, now.level, now.rain, now.chairs, now.bar, now.evening, all - now.here().size(), comings,
            now.seed, ran.size(), NONE};
        return what < 0 || what > 17 ? NONE : what > 10 ? refused[what - 10] : is[what];
    }
}
