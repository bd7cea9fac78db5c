import java.util.ArrayList;
import java.util.List;
import java.util.Random;

/** Long runs of calls by draws (always the same), of which the class and the Model are both asked. */
final class ModelTest {
    private static final String[] CALLS = {
        "row", "set", "copy", "element", "show", "holds", "says", "person", "person", "friend", "friend", "ask", "ask",
        "go", "go", "personOf", "school", "fault", "will", "tonight", "ahead", "worst", "ones", "ring", "begin",
        "room", "take", "price", "lost", "pairs", "chain", "keeps", "keep", "friends", "judge", "evenings", "drawn",
        "seed", "act", "trace", "image", "restore", "status", "TEXT", "TEXT", "REGISTER", "REGISTER",
    };
    private static final int[] HARD = {Integer.MIN_VALUE, Integer.MAX_VALUE, -2, -1000, 161, 1 << 20, 25, 13};

    private final Random draws;
    private final Due due = new Due("ModelTest");
    private ThirdEvening x;
    private Model model;
    private List<String> run;

    private ModelTest(long seed) {
        draws = new Random(seed);
    }

    public static void main(String[] args) {
        ModelTest test = new ModelTest(args.length > 0 ? Long.parseLong(args[0]) : 20260718L);
        int runs = args.length > 1 ? Integer.parseInt(args[1]) : 600;
        for (int i = 0; i < runs && test.due.wrong() == 0; i++) {
            test.oneRun();
        }
        test.due.end();
    }

    private void oneRun() {
        x = new ThirdEvening();
        model = new Model();
        run = new ArrayList<>();
        int people = draws.nextInt(11);
        for (int i = 0; i < people; i++) {
            ask("person", draws.nextInt(7), draws.nextInt(10), draws.nextInt(21), draws.nextInt(2));
        }
        for (int i = 0; i < people; i++) {
            if (draws.nextInt(3) > 0) {
                ask("friend", i, draws.nextInt(people));
            }
        }
        if (draws.nextBoolean()) {
            ask("ask", 2, 1 + draws.nextInt(6));
        }
        while (run.size() < 330 && due.wrong() == 0) {
            call(CALLS[draws.nextInt(CALLS.length)]);
        }
        askAll();
        if (due.wrong() != 0) {
            System.out.println(String.join("\n", run));
        }
    }

    private void ask(String call, long... g) {
        StringBuilder text = new StringBuilder(call).append('(');
        for (int i = 0; i < g.length; i++) {
            text.append(i == 0 ? "" : ", ").append(g[i]);
        }
        run.add(text.append(')').toString());
        due.is(text.toString(), answer(call, g), model.answer(call, g));
    }

    // What stands at the end, so that a wrong change is seen too.
    private void askAll() {
        for (int what = 0; what <= 18; what++) {
            ask("status", what);
        }
        for (int i = 0; i < model.now.people.size(); i++) {
            for (int what = 0; what < 8; what++) {
                ask("personOf", i, what);
            }
        }
        for (int s = 0; s < 8; s++) {
            ask("holds", s);
        }
    }

    // ---- arguments by draws: mostly such as may be, now and then not

    private int upTo(int n) {
        int d = draws.nextInt(40);
        return d == 0 ? HARD[draws.nextInt(HARD.length)] : d == 1 ? -1 : d == 2 ? n : draws.nextInt(Math.max(1, n));
    }

    private int one() {
        return upTo(model.now.people.size());
    }

    private int shelf() {
        return upTo(8);
    }

    private int stretch() {
        return draws.nextInt(3) == 0 ? upTo(26) : draws.nextInt(9);
    }

    private int anInt() {
        return draws.nextBoolean() ? draws.nextInt() : draws.nextInt(64) - 32;
    }

    private void call(String call) {
        switch (call) {
            case "TEXT": text(); break;
            case "REGISTER": register(); break;
            case "row": ask(call, shelf(), upTo(4), draws.nextInt(4) == 0 ? upTo(162) : upTo(6)); break;
            case "set": ask(call, shelf(), upTo(6), draws.nextBoolean() ? draws.nextLong() : anInt()); break;
            case "copy": copy(); break;
            case "element": case "says": ask(call, shelf(), upTo(7)); break;
            case "show": ask(call, shelf(), draws.nextInt(4) == 0 ? -1 : one()); break;
            case "person": ask(call, upTo(7), upTo(10), upTo(21), draws.nextInt(2)); break;
            case "friend": ask(call, one(), draws.nextInt(5) == 0 ? -1 : one()); break;
            case "ask": int what = upTo(4); ask(call, what, upTo(what == 0 ? 21 : what == 2 ? 13 : 11)); break;
            case "go": ask(call, one(), draws.nextInt(4) == 0 ? 1 : 0); break;
            case "personOf": ask(call, one(), upTo(8)); break;
            case "holds": case "school": ask(call, shelf()); break;
            case "will": case "chain": case "keeps": ask(call, one()); break;
            case "tonight": ask(call, upTo(3)); break;
            case "ahead": ask(call, stretch(), upTo(3)); break;
            case "worst": ask(call, stretch(), upTo(2)); break;
            case "ones": ask(call, one(), stretch(), upTo(2)); break;
            case "ring": ask(call, upTo(4), upTo(2)); break;
            case "begin": case "room": case "take": case "price": case "lost": ask(call, stretch()); break;
            case "friends": ask(call, shelf(), upTo(4), one()); break;
            case "judge": ask(call, shelf(), upTo(4)); break;
            case "evenings": case "drawn": ask(call, draws.nextInt(4) == 0 ? upTo(25) : 1 + draws.nextInt(2)); break;
            case "seed": ask(call, anInt()); break;
            case "act": act(); break;
            case "trace": ask(call, upTo(20)); break;
            case "status": ask(call, upTo(19)); break;
            case "restore": if (draws.nextInt(3) == 0) ask(call); break;
            default: ask(call);
        }
    }

    private void copy() {
        int p = shelf();
        int q = draws.nextInt(3) == 0 ? shelf() : p;
        ask("copy", p, q, upTo(5), upTo(5), upTo(5));
        for (int i = 0; i < 4; i++) {
            ask("element", q, i);
        }
    }

    private void act() {
        ask("act", one(), upTo(3), anInt());
        ask("status", 9);
        for (int i = draws.nextInt(4); i < 12; i += 3) {
            ask("trace", i);
        }
    }

    // The truth of the next EVENINGS, with now and then an element that isn't so.
    private void register() {
        int s = draws.nextInt(8);
        int sort = 1 + draws.nextInt(3);
        int n = draws.nextInt(6);
        ask("row", s, sort, n);
        Model.Course c = model.now.copy();
        if (draws.nextInt(3) == 0 && c.people.size() > 1) {
            c.people.get(0).friend = 1 + draws.nextInt(c.people.size() - 1);
        }
        for (int i = 0; i < n; i++) {
            long bits = Model.bits(c.seated(c.coming(java.util.Set.of())));
            bits ^= draws.nextInt(12) == 0 ? 1L << draws.nextInt(40) : 0;
            ask("set", s, i, bits);
            c.pass(1);
        }
        ask("judge", s, draws.nextInt(8) == 0 ? upTo(n) : n);
        ask("friends", s, draws.nextInt(8) == 0 ? upTo(n) : n, draws.nextInt(4) == 0 ? one() : 0);
    }

    private void text() {
        StringBuilder t = new StringBuilder(item());
        for (int more = draws.nextInt(4); more > 0; more--) {
            t.append(';').append(item());
        }
        if (draws.nextInt(3) == 0) {
            spoil(t);
        }
        int s = draws.nextInt(8);
        ask("row", s, draws.nextInt(4), t.length());
        for (int i = 0; i < t.length(); i++) {
            ask("set", s, i, t.charAt(i) + (draws.nextInt(900) == 0 ? 1L << 8 * (1 + draws.nextInt(4)) : 0));
        }
        ask("school", s);
        ask("fault");
    }

    private void spoil(StringBuilder t) {
        int at = draws.nextInt(t.length());
        String signs = "pflrcbg ;0129ex\0";
        switch (draws.nextInt(4)) {
            case 0: t.setLength(at); break;
            case 1: t.deleteCharAt(at); break;
            case 2: t.insert(at, signs.charAt(draws.nextInt(signs.length()))); break;
            default: t.setCharAt(at, signs.charAt(draws.nextInt(signs.length())));
        }
    }

    private String number(int most) {
        int v = draws.nextInt(25) == 0 ? draws.nextInt(130) : draws.nextInt(Math.max(1, most + 1));
        return (v < 10 && draws.nextInt(6) == 0 ? " 0" : " ") + v;
    }

    private String item() {
        int last = model.now.people.size() - 1;
        switch (draws.nextInt(8)) {
            case 0: case 1: return "person" + number(6) + number(9) + number(20) + number(1);
            case 2: return "friend" + number(last) + number(last);
            case 3: return "level" + number(20);
            case 4: return "rain" + number(9);
            case 5: return "chairs" + number(12);
            case 6: return "bar" + number(10);
            default: return "gone" + number(last);
        }
    }

    // ---- the class's answer, by the name of the call

    private long answer(String call, long[] l) {
        int a = l.length > 0 ? (int) l[0] : 0;
        int b = l.length > 1 ? (int) l[1] : 0;
        int c = l.length > 2 ? (int) l[2] : 0;
        switch (call) {
            case "row": return x.row(a, b, c);
            case "set": return x.set(a, b, l[2]);
            case "copy": return x.copy(a, b, c, (int) l[3], (int) l[4]);
            case "element": return x.element(a, b);
            case "show": return x.show(a, b);
            case "holds": return x.holds(a);
            case "says": return x.says(a, b);
            case "person": return x.person(a, b, c, l[3] == 1);
            case "friend": return x.friend(a, b);
            case "ask": return x.ask(a, b);
            case "go": return x.go(a, b == 1);
            case "personOf": return x.personOf(a, b);
            case "school": return x.school(a);
            case "fault": return x.fault();
            case "will": return x.will(a);
            case "tonight": return x.tonight(a);
            case "ahead": return x.ahead(a, b);
            case "worst": return x.worst(a, b);
            case "ones": return x.ones(a, b, c);
            case "ring": return x.ring(a, b);
            case "begin": return x.begin(a);
            case "room": return x.room(a);
            case "take": return x.take(a);
            case "price": return x.price(a);
            case "lost": return x.lost(a);
            case "pairs": return x.pairs();
            case "chain": return x.chain(a);
            case "keeps": return x.keeps(a);
            case "keep": return x.keep();
            case "friends": return x.friends(a, b, c);
            case "judge": return x.judge(a, b);
            case "evenings": return x.evenings(a);
            case "drawn": return x.drawn(a);
            case "seed": return x.seed(a);
            case "act": return x.act(a, b, c);
            case "trace": return x.trace(a);
            case "image": return x.image();
            case "restore": return x.restore();
            case "status": return x.status(a);
            default: throw new IllegalArgumentException(call);
        }
    }
}
