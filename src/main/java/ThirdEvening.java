import java.util.Arrays;

/**
 * A course in an evening school, to which people come again or don't.
 * What each call does is said in ../shared/DOC.md, promise by promise.
 */
public final class ThirdEvening {
    public static final int NONE = -1;

    private static final int NOBODY = -1;
    private static final int OTHER = -2;
    private static final int NOTHING = -3;
    private static final int BELOW = -4;
    private static final int BEYOND = -5;
    private static final int WRONG = -6;
    private static final int NO_ROOM = -7;

    private static final int PERSON = 0;
    private static final int EAGER = 1;
    private static final int SHY = 2;
    private static final int CHEERFUL = 3;
    private static final int SLOW = 4;
    private static final int FAN = 5;
    private static final int TWIN = 6;
    private static final int[] KIND_ABOVE = {NONE, PERSON, PERSON, EAGER, SHY, PERSON, CHEERFUL};

    private static final int LEVEL = 0;
    private static final int RAIN = 1;
    private static final int CHAIRS = 2;
    private static final int BAR = 3;
    private static final int[] LEAST_SETTING = {0, 0, 1, 0};
    private static final int[] MOST_SETTING = {20, 9, 12, 10};

    private static final int MOST_PEOPLE = 10;
    private static final int MOST_A = 9;
    private static final int MOST_OWN = 20;
    private static final int MOST_BEHIND = 9;
    private static final int MOST_EVENINGS = 24;
    private static final int MOST_RUNG = 3;
    private static final int MOST_SHELVES = 8;
    private static final int MOST_ELEMENTS = 160;
    private static final int LONGS = 3;

    private final School now = new School();
    private final School plan = new School();
    private final School picture = new School();
    private boolean pictured;
    private final Outlook outlook = new Outlook();
    private final Shelf[] shelves = new Shelf[MOST_SHELVES];
    private final Shelf noShelf = new Shelf();
    private final Reader reader = new Reader();
    private final Moves moves = new Moves();
    private final int[] refusals = new int[8];
    private int latestFault = NONE;

    public ThirdEvening() {
        for (int s = 0; s < shelves.length; s++) {
            shelves[s] = new Shelf();
        }
    }

    // ---- shelves

    public int row(int s, int sort, int n) {
        if (!isShelf(s)) {
            return refuse(NOBODY);
        }
        if (n < 0) {
            return refuse(BELOW);
        }
        if (sort < 0 || sort > LONGS) {
            return refuse(WRONG);
        }
        if (n > MOST_ELEMENTS) {
            return refuse(NO_ROOM);
        }
        shelfAt(s).holdRow(sort, n);
        return 1;
    }

    public int set(int s, int i, long v) {
        int no = whyNoRow(s);
        if (no != 0) {
            return refuse(no);
        }
        if (!shelfAt(s).hasElement(i)) {
            return refuse(BEYOND);
        }
        shelfAt(s).put(i, v);
        return 1;
    }

    public int copy(int p, int q, int i, int j, int n) {
        if (!isShelf(p) || !isShelf(q)) {
            return refuse(NOBODY);
        }
        Shelf from = shelfAt(p);
        Shelf to = shelfAt(q);
        boolean rows = from.isRow() && to.isRow();
        if (from.isPerson() || to.isPerson() || rows && from.sort != to.sort) {
            return refuse(OTHER);
        }
        if (!rows) {
            return refuse(NOTHING);
        }
        if (n < 0) {
            return refuse(BELOW);
        }
        if (!from.hasStretch(i, n) || !to.hasStretch(j, n)) {
            return refuse(BEYOND);
        }
        System.arraycopy(from.elements, i, to.elements, j, n);
        return 1;
    }

    public long element(int s, int i) {
        return shelfAt(s).elementAt(i);
    }

    public int show(int s, int person) {
        if (!isShelf(s) || person != NONE && !now.has(person)) {
            return refuse(NOBODY);
        }
        shelfAt(s).holdPerson(person);
        return person == NONE ? 0 : 1;
    }

    public int holds(int s) {
        Shelf shelf = shelfAt(s);
        return shelf.isRow() ? 100 + shelf.sort : shelf.person;
    }

    public int says(int s, int kind) {
        if (!isShelf(s) || !isKind(kind)) {
            return refuse(NOBODY);
        }
        Shelf shelf = shelfAt(s);
        Person one = now.one(shelf.person);
        if (shelf.isRow() || shelf.isPerson() && !isUnder(one.kind, kind)) {
            return refuse(OTHER);
        }
        return shelf.isPerson() ? one.sayingAs(kind) : refuse(NOTHING);
    }

    // ---- the school

    public int person(int kind, int a, int own, boolean paid) {
        if (!isKind(kind)) {
            return refuse(NOBODY);
        }
        if (a < 0 || a > MOST_A || own < 0 || own > MOST_OWN) {
            return refuse(WRONG);
        }
        if (now.isFull()) {
            return refuse(NO_ROOM);
        }
        return now.enrol(kind, a, own, paid);
    }

    public int friend(int person, int other) {
        if (!now.has(person) || other != NONE && !now.has(other)) {
            return refuse(NOBODY) - 10;
        }
        if (person == other) {
            return refuse(WRONG) - 10;
        }
        int was = now.one(person).mate;
        now.one(person).mate = other;
        return was;
    }

    public int ask(int what, int v) {
        if (what < LEVEL || what > BAR || v < leastOf(what) || v > mostOf(what)) {
            return refuse(WRONG);
        }
        int was = now.setting(what);
        now.settle(what, v);
        return was;
    }

    public int go(int person, boolean is) {
        if (!now.has(person)) {
            return refuse(NOBODY);
        }
        Person one = now.one(person);
        int was = one.gone ? 1 : 0;
        one.gone = is;
        if (!is) {
            one.missed = 0;
        }
        return was;
    }

    public int personOf(int person, int what) {
        if (!now.has(person) || what < 0 || what > 7) {
            return refuse(BEYOND);
        }
        return now.one(person).mark(what);
    }

    public int school(int s) {
        int no = whyNoRow(s);
        if (no != 0) {
            return refuse(no);
        }
        int items = reader.read(shelfAt(s), now);
        latestFault = reader.wrongAt;
        if (latestFault != NONE) {
            return refuse(WRONG);
        }
        now.become(reader.told);
        return items;
    }

    public int fault() {
        return latestFault;
    }

    // ---- an evening, and what comes of several (told by the plan, so that nothing is changed)

    public int will(int person) {
        if (!now.has(person)) {
            return refuse(NOBODY) - 1000;
        }
        return now.pullOn(person);
    }

    public int tonight(int what) {
        if (what < 0 || what > 2) {
            return refuse(BEYOND);
        }
        int coming = now.comers(0);
        int seated = now.seatedOf(coming);
        return what == 0 ? coming : what == 1 ? seated : coming & ~seated;
    }

    public int ahead(int n, int what) {
        if (what < 0 || what > 2) {
            return refuse(BEYOND);
        }
        if (!isStretch(n)) {
            return refuse(WRONG);
        }
        plan.become(now);
        outlook.watch(plan, n);
        return what == 0 ? Integer.bitCount(plan.present()) : what == 1 ? outlook.seated : outlook.turned;
    }

    public int worst(int n, int what) {
        if (what < 0 || what > 1) {
            return refuse(BEYOND) - 10;
        }
        if (n == 0 || !isStretch(n)) {
            return refuse(WRONG) - 10;
        }
        plan.become(now);
        outlook.watch(plan, n);
        return what == 0 ? outlook.emptiest : outlook.shut;
    }

    public int ones(int person, int n, int what) {
        if (!now.has(person)) {
            return refuse(NOBODY);
        }
        if (what < 0 || what > 1) {
            return refuse(BEYOND);
        }
        if (!isStretch(n)) {
            return refuse(WRONG);
        }
        plan.become(now);
        outlook.watch(plan, n);
        return what == 0 ? plan.one(person).comings : plan.one(person).own;
    }

    public int ring(int k, int what) {
        if (what < 0 || what > 1) {
            return refuse(BEYOND) - 10;
        }
        if (k < 0 || k > MOST_RUNG) {
            return refuse(WRONG) - 10;
        }
        int here = now.present();
        int best = NONE;
        int most = NONE;
        for (int rung = 0; rung < 1 << MOST_PEOPLE; rung++) {
            if ((rung & ~here) != 0 || Integer.bitCount(rung) != k) {
                continue;
            }
            int seated = Integer.bitCount(now.seatedOf(now.comers(rung)));
            if (seated > most) {
                most = seated;
                best = rung;
            }
        }
        return what == 0 ? best : most;
    }

    public int begin(int n) {
        if (!isStretch(n)) {
            return refuse(WRONG);
        }
        int best = 0;
        int most = NONE;
        for (int level = leastOf(LEVEL); level <= mostOf(LEVEL); level++) {
            plan.become(now);
            plan.settle(LEVEL, level);
            outlook.watch(plan, n);
            if (outlook.seated > most) {
                most = outlook.seated;
                best = level;
            }
        }
        return best;
    }

    public int room(int n) {
        if (!isStretch(n)) {
            return refuse(WRONG);
        }
        for (int chairs = leastOf(CHAIRS); chairs < mostOf(CHAIRS); chairs++) {
            plan.become(now);
            plan.settle(CHAIRS, chairs);
            outlook.watch(plan, n);
            if (outlook.turned == 0) {
                return chairs;
            }
        }
        return mostOf(CHAIRS);
    }

    public int take(int n) {
        if (!isStretch(n)) {
            return refuse(WRONG);
        }
        int best = 0;
        int most = NONE;
        for (int taken = 0; taken <= now.size; taken++) {
            plan.become(now);
            plan.dismissFrom(taken);
            outlook.watch(plan, n);
            int left = Integer.bitCount(plan.present());
            if (left > most) {
                most = left;
                best = taken;
            }
        }
        return best;
    }

    public int price(int n) {
        if (!isStretch(n)) {
            return refuse(WRONG) - 1000;
        }
        plan.become(now);
        plan.payForAll(true);
        outlook.watch(plan, n);
        int paid = outlook.seated;
        plan.become(now);
        plan.payForAll(false);
        outlook.watch(plan, n);
        return paid - outlook.seated;
    }

    public int lost(int n) {
        if (!isStretch(n)) {
            return refuse(WRONG);
        }
        plan.become(now);
        outlook.watch(plan, n);
        return now.present() & ~plan.present();
    }

    // ---- who is whose friend

    public int pairs() {
        int found = 0;
        for (int i = 0; i < now.size; i++) {
            int other = now.one(i).mate;
            if (other > i && now.one(other).mate == i) {
                found++;
            }
        }
        return found;
    }

    public int chain(int person) {
        if (!now.has(person)) {
            return refuse(NOBODY);
        }
        int met = 1 << person;
        int at = now.one(person).mate;
        for (int step = 0; step < MOST_PEOPLE && now.has(at) && !isIn(met, at); step++) {
            met |= 1 << at;
            at = now.one(at).mate;
        }
        return Integer.bitCount(met) - 1;
    }

    public int keeps(int person) {
        if (!now.has(person)) {
            return refuse(NOBODY);
        }
        if (now.one(person).gone) {
            return refuse(WRONG);
        }
        return heldBy(person);
    }

    public int keep() {
        int best = NONE;
        int most = NONE;
        for (int i = 0; i < now.size; i++) {
            int held = now.one(i).gone ? NONE : heldBy(i);
            if (held > most) {
                most = held;
                best = i;
            }
        }
        return best;
    }

    public int friends(int s, int n, int person) {
        int no = now.has(person) ? whyNoRegister(s, n) : NOBODY;
        if (no != 0) {
            return refuse(no);
        }
        int may = 0;
        for (int other = NONE; other < now.size; other++) {
            if (other == person) {
                continue;
            }
            plan.become(now);
            plan.one(person).mate = other;
            if (outlook.firstWrong(plan, shelfAt(s), n) == NONE) {
                may |= 1 << (other == NONE ? now.size : other);
            }
        }
        return may;
    }

    public int judge(int s, int n) {
        int no = whyNoRegister(s, n);
        if (no != 0) {
            return refuse(no) - 10;
        }
        plan.become(now);
        return outlook.firstWrong(plan, shelfAt(s), n);
    }

    // ---- in truth

    public int evenings(int n) {
        if (n == 0 || !isStretch(n)) {
            return refuse(WRONG);
        }
        outlook.watch(now, n);
        return outlook.seated;
    }

    public int drawn(int n) {
        if (n == 0 || !isStretch(n)) {
            return refuse(WRONG);
        }
        int seated = 0;
        for (int i = 0; i < n; i++) {
            now.settle(RAIN, now.draw(10));
            outlook.watch(now, 1);
            seated += outlook.seated;
        }
        return seated;
    }

    public int seed(int v) {
        int was = now.luck;
        now.luck = v;
        return was;
    }

    public int act(int person, int move, int x) {
        moves.forget();
        if (!now.has(person) || !Moves.isMove(move)) {
            return 0;
        }
        return moves.run(person, now.one(person), move, x);
    }

    public int trace(int i) {
        return moves.bodyAt(i);
    }

    public int image() {
        picture.become(now);
        pictured = true;
        return now.size;
    }

    public int restore() {
        if (!pictured) {
            return refuse(WRONG);
        }
        now.become(picture);
        for (int s = 0; s < MOST_SHELVES; s++) {
            Shelf shelf = shelfAt(s);
            if (shelf.isPerson() && !now.has(shelf.person)) {
                shelf.holdPerson(NONE);
            }
        }
        return now.size;
    }

    public int status(int what) {
        switch (what) {
            case 0:
                return now.size;
            case 1:
            case 2:
            case 3:
            case 4:
                return now.setting(what - 1);
            case 5:
                return now.evening;
            case 6:
                return now.size - Integer.bitCount(now.present());
            case 7:
                return now.comingsTogether();
            case 8:
                return now.luck;
            case 9:
                return moves.ran;
            default:
                return what > 10 && what < 10 + refusals.length ? refusals[what - 10] : NONE;
        }
    }

    // ---- helpers

    private int refuse(int number) {
        int at = -number;
        if (at >= 0 && at < refusals.length) {
            refusals[at]++;
        }
        return number;
    }

    private boolean isShelf(int s) {
        return s >= 0 && s < shelves.length;
    }

    private Shelf shelfAt(int s) {
        return s >= 0 && s < shelves.length ? shelves[s] : noShelf;
    }

    private int whyNoRow(int s) {
        if (!isShelf(s)) {
            return NOBODY;
        }
        Shelf shelf = shelfAt(s);
        return shelf.isPerson() ? OTHER : shelf.isRow() ? 0 : NOTHING;
    }

    private int whyNoRegister(int s, int n) {
        int no = whyNoRow(s);
        if (no != 0) {
            return no;
        }
        if (n < 0) {
            return BELOW;
        }
        return n > shelfAt(s).length ? BEYOND : n > MOST_EVENINGS ? WRONG : 0;
    }

    private int heldBy(int person) {
        int others = now.comers(0) & ~(1 << person);
        plan.become(now);
        plan.one(person).gone = true;
        return Integer.bitCount(others) - Integer.bitCount(plan.comers(0));
    }

    private static boolean isStretch(int n) {
        return n >= 0 && n <= MOST_EVENINGS;
    }

    private static boolean isIn(int bits, int i) {
        return i >= 0 && i < MOST_PEOPLE && (bits >> i & 1) == 1;
    }

    private static boolean isKind(int kind) {
        return kind >= 0 && kind < KIND_ABOVE.length;
    }

    private static int kindAbove(int kind) {
        return kind >= 0 && kind < KIND_ABOVE.length ? KIND_ABOVE[kind] : NONE;
    }

    private static boolean isUnder(int kind, int wanted) {
        int at = kind;
        for (int step = 0; step < KIND_ABOVE.length && at != NONE; step++) {
            if (at == wanted) {
                return true;
            }
            at = kindAbove(at);
        }
        return false;
    }

    private static int leastOf(int what) {
        return what >= 0 && what < LEAST_SETTING.length ? LEAST_SETTING[what] : 0;
    }

    private static int mostOf(int what) {
        return what >= 0 && what < MOST_SETTING.length ? MOST_SETTING[what] : 0;
    }

    /** One of the PEOPLE. */
    private static final class Person {
        int kind;
        int a;
        int own;
        boolean paid;
        int mate = NONE;
        int behind;
        int missed;
        int comings;
        boolean gone;
        // How much draws him on the evening that is being worked out: nothing to be kept.
        int pull;

        void enter(int newKind, int newA, int newOwn, boolean newPaid) {
            kind = newKind;
            a = newA;
            own = newOwn;
            paid = newPaid;
            mate = NONE;
            behind = 0;
            missed = 0;
            comings = 0;
            gone = false;
        }

        void become(Person other) {
            kind = other.kind;
            a = other.a;
            own = other.own;
            paid = other.paid;
            mate = other.mate;
            behind = other.behind;
            missed = other.missed;
            comings = other.comings;
            gone = other.gone;
        }

        int pullOn(int level, int rain, int evening) {
            int strain = Math.abs(level - own) / 2;
            int all = 12 - rain - strain - 2 * behind;
            if (paid) {
                all += Math.max(0, 4 - evening / 3);
            }
            switch (kind) {
                case EAGER:
                    return all + a;
                case CHEERFUL:
                case TWIN:
                    return all + a + 2;
                case SHY:
                    return all - a;
                case SLOW:
                    return all - a - strain;
                case FAN:
                    return isMatchDay(evening) ? all - 20 : all;
                default:
                    return all;
            }
        }

        private boolean isMatchDay(int evening) {
            int every = a + 2;
            return every > 0 && evening % every == 0;
        }

        void sat() {
            comings++;
            behind = Math.max(0, behind - 1);
            own = Math.min(MOST_OWN, own + 1);
            missed = 0;
        }

        // At least, not just equal: PRICE asks of one who had PAID and MISSED 2 as if he hadn't.
        void stayedAway() {
            behind = Math.min(MOST_BEHIND, behind + 1);
            missed++;
            if (missed >= (paid ? 3 : 2)) {
                gone = true;
            }
        }

        int mark(int what) {
            switch (what) {
                case 0:
                    return kind;
                case 1:
                    return a;
                case 2:
                    return own;
                case 3:
                    return paid ? 1 : 0;
                case 4:
                    return behind;
                case 5:
                    return missed;
                case 6:
                    return comings;
                default:
                    return gone ? 1 : 0;
            }
        }

        int sayingAs(int taken) {
            switch (taken) {
                case EAGER:
                case CHEERFUL:
                case TWIN:
                    return comings;
                case SHY:
                case SLOW:
                    return behind;
                case FAN:
                    return a;
                default:
                    return own;
            }
        }
    }

    /** The PEOPLE and all that stands about them: the true one, a plan, the IMAGE. */
    private static final class School {
        final Person[] people = new Person[MOST_PEOPLE];
        final Person nobody = new Person();
        int size;
        int level = 8;
        int rain;
        int chairs = 8;
        int bar = 3;
        int evening;
        int luck = 1;

        School() {
            for (int i = 0; i < people.length; i++) {
                people[i] = new Person();
            }
        }

        void become(School other) {
            size = other.size;
            level = other.level;
            rain = other.rain;
            chairs = other.chairs;
            bar = other.bar;
            evening = other.evening;
            luck = other.luck;
            for (int i = 0; i < size; i++) {
                one(i).become(other.one(i));
            }
        }

        boolean has(int i) {
            return i >= 0 && i < size;
        }

        boolean isFull() {
            return size >= MOST_PEOPLE;
        }

        Person one(int i) {
            return i >= 0 && i < people.length ? people[i] : nobody;
        }

        int enrol(int kind, int a, int own, boolean paid) {
            one(size).enter(kind, a, own, paid);
            size++;
            return size - 1;
        }

        int setting(int what) {
            switch (what) {
                case LEVEL:
                    return level;
                case RAIN:
                    return rain;
                case CHAIRS:
                    return chairs;
                default:
                    return bar;
            }
        }

        void settle(int what, int v) {
            switch (what) {
                case LEVEL:
                    level = v;
                    break;
                case RAIN:
                    rain = v;
                    break;
                case CHAIRS:
                    chairs = v;
                    break;
                default:
                    bar = v;
                    break;
            }
        }

        void dismissFrom(int first) {
            for (int i = Math.max(0, first); i < size; i++) {
                one(i).gone = true;
            }
        }

        void payForAll(boolean paid) {
            for (int i = 0; i < size; i++) {
                one(i).paid = paid;
            }
        }

        int present() {
            int bits = 0;
            for (int i = 0; i < size; i++) {
                if (!one(i).gone) {
                    bits |= 1 << i;
                }
            }
            return bits;
        }

        int comingsTogether() {
            int sum = 0;
            for (int i = 0; i < size; i++) {
                sum += one(i).comings;
            }
            return sum;
        }

        int pullOn(int i) {
            return one(i).pullOn(level, rain, evening);
        }

        // Each round but the last takes at least one away, so one round more than PEOPLE is enough.
        int comers(int rung) {
            for (int i = 0; i < size; i++) {
                one(i).pull = pullOn(i) + (isIn(rung, i) ? 4 : 0);
            }
            int coming = present();
            for (int round = 0; round <= MOST_PEOPLE; round++) {
                int still = stillComing(coming);
                if (still == coming) {
                    break;
                }
                coming = still;
            }
            return coming;
        }

        private int stillComing(int coming) {
            int still = 0;
            for (int i = 0; i < size; i++) {
                if (isIn(coming, i) && comesWith(one(i), coming)) {
                    still |= 1 << i;
                }
            }
            return still;
        }

        private boolean comesWith(Person one, int coming) {
            if (!isIn(coming, one.mate)) {
                return one.pull > 0 && (one.kind != TWIN || one.mate == NONE);
            }
            int more = isUnder(one(one.mate).kind, CHEERFUL) ? 6 : 3;
            return one.pull + more > 0;
        }

        int seatedOf(int coming) {
            int seated = 0;
            int free = chairs;
            for (int i = 0; i < size && free > 0; i++) {
                if (isIn(coming, i)) {
                    seated |= 1 << i;
                    free--;
                }
            }
            return seated;
        }

        void endEvening(int seated) {
            for (int i = 0; i < size; i++) {
                if (isIn(seated, i)) {
                    one(i).sat();
                } else if (!one(i).gone) {
                    one(i).stayedAway();
                }
            }
            evening++;
        }

        int draw(int below) {
            luck = luck * 1103515245 + 12345;
            return below > 0 ? (luck >>> 16) % below : 0;
        }
    }

    /** Lets EVENINGS of a School go by, and keeps what was seen. */
    private static final class Outlook {
        int seated;
        int turned;
        int emptiest;
        int shut;

        void watch(School school, int n) {
            seated = 0;
            turned = 0;
            emptiest = NONE;
            shut = NONE;
            int fewest = MOST_PEOPLE + 1;
            for (int i = 0; i < n; i++) {
                int coming = school.comers(0);
                int bits = school.seatedOf(coming);
                int chairsTaken = Integer.bitCount(bits);
                seated += chairsTaken;
                turned += Integer.bitCount(coming) - chairsTaken;
                if (chairsTaken < fewest) {
                    fewest = chairsTaken;
                    emptiest = i;
                }
                if (shut == NONE && chairsTaken < school.bar) {
                    shut = i;
                }
                school.endEvening(bits);
            }
        }

        int firstWrong(School school, Shelf register, int n) {
            for (int i = 0; i < n; i++) {
                int bits = school.seatedOf(school.comers(0));
                if (register.intAt(i) != bits) {
                    return i;
                }
                school.endEvening(bits);
            }
            return NONE;
        }
    }

    /** Holds NOTHING, a ROW, or one of the PEOPLE by his number. */
    private static final class Shelf {
        int sort = NONE;
        int person = NONE;
        int length;
        final long[] elements = new long[MOST_ELEMENTS];

        boolean isRow() {
            return sort != NONE;
        }

        boolean isPerson() {
            return person != NONE;
        }

        void holdRow(int newSort, int n) {
            sort = newSort;
            person = NONE;
            length = n;
            Arrays.fill(elements, 0L);
        }

        void holdPerson(int newPerson) {
            sort = NONE;
            person = newPerson;
            length = 0;
        }

        boolean hasElement(int i) {
            return i >= 0 && i < length;
        }

        boolean hasStretch(int first, int n) {
            return first >= 0 && n >= 0 && (long) first + n <= length;
        }

        void put(int i, long v) {
            if (i < 0 || i >= length || i >= elements.length) {
                return;
            }
            switch (sort) {
                case 0:
                    elements[i] = (byte) v;
                    break;
                case 1:
                    elements[i] = (short) v;
                    break;
                case 2:
                    elements[i] = (int) v;
                    break;
                default:
                    elements[i] = v;
                    break;
            }
        }

        long elementAt(int i) {
            return i >= 0 && i < length && i < elements.length ? elements[i] : 0L;
        }

        int intAt(int i) {
            return (int) elementAt(i);
        }
    }

    /** Reads the text of a School, item by item, into a School of its own, so that a FAULT leaves no trace. */
    private static final class Reader {
        private static final int PERSON_WORD = 0;
        private static final int FRIEND_WORD = 1;
        private static final int GONE_WORD = 2;
        // The words from here on are those of LEVEL, RAIN, CHAIRS and BAR, in their order.
        private static final int SETTING_WORD = 3;
        private static final int WORDS = 7;

        final School told = new School();
        int wrongAt = NONE;
        private final int[] letters = new int[MOST_ELEMENTS];
        private int length;
        private int at;
        private int numberAt;

        // Answers how many ITEMS; wrongAt is NONE, if all could stand.
        int read(Shelf text, School before) {
            told.become(before);
            length = text.length;
            for (int i = 0; i < letters.length; i++) {
                letters[i] = text.intAt(i);
            }
            at = 0;
            wrongAt = NONE;
            for (int items = 1; items <= MOST_ELEMENTS; items++) {
                if (!readItem()) {
                    return NONE;
                }
                if (at >= length) {
                    return items;
                }
                if (!readSign(';')) {
                    return NONE;
                }
            }
            return NONE;
        }

        private boolean readItem() {
            int wordAt = at;
            int word = readWord();
            switch (word) {
                case NONE:
                    return false;
                case PERSON_WORD:
                    return told.isFull() ? fail(wordAt) : readPerson();
                case FRIEND_WORD:
                    return readFriend();
                case GONE_WORD:
                    return readGone();
                default:
                    return readSetting(word - SETTING_WORD);
            }
        }

        // The first letter tells which word it must be: no two begin alike.
        private int readWord() {
            int word = NONE;
            for (int i = 0; i < WORDS; i++) {
                if (letter() == wordOf(i).charAt(0)) {
                    word = i;
                }
            }
            if (word == NONE) {
                fail(at);
                return NONE;
            }
            String whole = wordOf(word);
            for (int i = 0; i < whole.length(); i++) {
                if (!readSign(whole.charAt(i))) {
                    return NONE;
                }
            }
            return word;
        }

        private static String wordOf(int word) {
            switch (word) {
                case PERSON_WORD:
                    return "person";
                case FRIEND_WORD:
                    return "friend";
                case GONE_WORD:
                    return "gone";
                case SETTING_WORD + LEVEL:
                    return "level";
                case SETTING_WORD + RAIN:
                    return "rain";
                case SETTING_WORD + CHAIRS:
                    return "chairs";
                default:
                    return "bar";
            }
        }

        private boolean readPerson() {
            int kind = readNumber(0, KIND_ABOVE.length - 1);
            int a = kind == NONE ? NONE : readNumber(0, MOST_A);
            int own = a == NONE ? NONE : readNumber(0, MOST_OWN);
            int paid = own == NONE ? NONE : readNumber(0, 1);
            if (paid == NONE) {
                return false;
            }
            told.enrol(kind, a, own, paid == 1);
            return true;
        }

        private boolean readFriend() {
            int person = readNumber(0, told.size - 1);
            int other = person == NONE ? NONE : readNumber(0, told.size - 1);
            if (other == NONE) {
                return false;
            }
            if (other == person) {
                return fail(numberAt);
            }
            told.one(person).mate = other;
            return true;
        }

        private boolean readGone() {
            int person = readNumber(0, told.size - 1);
            if (person == NONE) {
                return false;
            }
            told.one(person).gone = true;
            return true;
        }

        private boolean readSetting(int what) {
            int v = readNumber(leastOf(what), mostOf(what));
            if (v == NONE) {
                return false;
            }
            told.settle(what, v);
            return true;
        }

        // A blank and the NUMBER behind it; NONE, if they can't stand there.
        private int readNumber(int least, int most) {
            if (!readSign(' ')) {
                return NONE;
            }
            numberAt = at;
            if (!isDigit()) {
                fail(at);
                return NONE;
            }
            int v = readDigit();
            if (isDigit()) {
                v = v * 10 + readDigit();
            }
            if (v < least || v > most) {
                fail(numberAt);
                return NONE;
            }
            return v;
        }

        private boolean isDigit() {
            return letter() >= '0' && letter() <= '9';
        }

        private int readDigit() {
            int digit = letter() - '0';
            at++;
            return digit;
        }

        private boolean readSign(int sign) {
            if (letter() != sign) {
                return fail(at);
            }
            at++;
            return true;
        }

        // NONE behind the end: no sign that is asked for is below 0.
        private int letter() {
            return at >= 0 && at < length && at < letters.length ? letters[at] : NONE;
        }

        private boolean fail(int place) {
            wrongAt = place;
            return false;
        }
    }

    /** The MOVES of PEOPLE by the bodies of their KINDS, and THE TRACE of these. */
    private static final class Moves {
        private static final int COMES = 0;
        private static final int SITS = 1;
        private static final int ASKS = 2;
        private static final int MOVES = 3;
        private static final int MOST_DEEP = 30;
        // By KIND and MOVE the number of the body; NONE: the KIND has none of its own.
        private static final int[] BODIES = {
            10, 11, 12,
            20, NONE, NONE,
            NONE, 30, NONE,
            40, NONE, NONE,
            NONE, NONE, 60,
            51, NONE, 50,
            70, 71, NONE,
        };

        int ran;
        private final int[] begun = new int[20];
        private int number;
        private int kind;
        private int a;

        static boolean isMove(int move) {
            return move >= 0 && move < MOVES;
        }

        void forget() {
            ran = 0;
        }

        int run(int newNumber, Person one, int move, int x) {
            number = newNumber;
            kind = one.kind;
            a = one.a;
            return call(kind, move, x, 0);
        }

        int bodyAt(int i) {
            return i >= 0 && i < ran && i < begun.length ? begun[i] : NONE;
        }

        private static int bodyOf(int from, int move) {
            int at = from * MOVES + move;
            return at >= 0 && at < BODIES.length ? BODIES[at] : NONE;
        }

        // The body of a KIND, or of the next KIND above that has one.
        private int call(int from, int move, int x, int deep) {
            if (deep > MOST_DEEP) {
                return 0;
            }
            int at = from;
            for (int step = 0; step < KIND_ABOVE.length && bodyOf(at, move) == NONE; step++) {
                at = kindAbove(at);
            }
            int body = bodyOf(at, move);
            note(body);
            return perform(body, x, deep + 1);
        }

        private void note(int body) {
            if (ran >= 0 && ran < begun.length) {
                begun[ran] = body;
            }
            ran++;
        }

        private int perform(int body, int x, int deep) {
            switch (body) {
                case 10:
                    return x + number;
                case 11:
                    return call(kind, COMES, x, deep) * 2;
                case 12:
                    return call(kind, SITS, x, deep) ^ call(kind, COMES, x - a, deep);
                case 20:
                    return call(kindAbove(EAGER), COMES, x, deep) + a;
                case 30:
                    return call(kindAbove(SHY), SITS, x, deep) * 3;
                case 40:
                    return call(kindAbove(CHEERFUL), COMES, x + 1, deep);
                case 50:
                    return -call(kindAbove(FAN), ASKS, x, deep);
                case 51:
                    return call(kindAbove(FAN), COMES, x, deep) - number;
                case 60:
                    return call(kindAbove(SLOW), ASKS, x, deep) ^ 5;
                case 70:
                    return call(kindAbove(TWIN), COMES, x, deep) * 2;
                case 71:
                    return call(kindAbove(TWIN), SITS, x - a, deep);
                default:
                    return 0;
            }
        }
    }
}
