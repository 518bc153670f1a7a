import java.util.Arrays;

/**
 * People who may bring over a frontier only as much as they weighed with all the last time,
 * less what they have eaten since. The document's promises say what each call answers.
 */
public final class WeighedSelf {
    public static final int BAD = -1, STATE = -2, FULL = -3, NONE = -4;

    private static final int PLAIN = 0, ABBOT = 1, FASTER = 2, TWIN = 3, WALKER = 4;
    private static final int REST = 0, EAT = 1, WALK = 2, CROSS = 3;
    private static final int ONES = 4, FRONTIERS = 3, LOADS = 5, IMAGES = 2, SHEETS = 4;
    private static final int TAPE = 320, SEEN = 4, TRIED = 6, CELLS = 40;
    private static final int MOST_BODY = 99, MOST_BOOK = 199, MOST_SHOWN = 999;
    private static final int MOST_GOODS = 99, MOST_GOODS_BY_LAW = 5;
    private static final int MOST_DAYS = 999, MOST_MONEY = 9999;
    private static final int MOST_ERROR = 4, MOST_PRICE = 9, MOST_LAW = 2, MOST_LOAD = 30;
    private static final int SEASON_DAYS = 8, SPAN_DAYS = 6, DRIFT_DAYS = 60, READ_DAYS = 20;
    private static final int FASTING_LAW = 1, GOODS_LAW = 2, WEEK = 7;
    private static final int NULL_FAULT = 1, INDEX_FAULT = 2, CAST_FAULT = 3, SIZE_FAULT = 4;

    private final Realm now = new Realm();
    private final Realm spare = new Realm();
    private final Realm[] images = new Realm[IMAGES];
    private final boolean[] kept = new boolean[IMAGES];
    private final Sheet[] sheets = new Sheet[SHEETS];
    private final Reader reader = new Reader();
    private final Weighings seen = new Weighings(SEEN);
    private final Weighings tried = new Weighings(TRIED);
    private final Season plan = new Season();
    private final Shares shares = new Shares();
    private final Bodies bodies = new Bodies();
    private final Fits fits = new Fits();
    private int tornBy;

    public WeighedSelf() {
        for (int k = 0; k < IMAGES; k++) {
            images[k] = new Realm();
        }
        for (int k = 0; k < SHEETS; k++) {
            sheets[k] = new Sheet();
        }
    }

    // ---- the text, what there is

    public int feed(long v) {
        return reader.takeEight(v) ? reader.length : FULL;
    }

    public int end(int n) {
        int had = reader.length;
        if (!within(n, 0, had)) {
            return BAD;
        }
        reader.length = n;
        return had;
    }

    public int text() {
        boolean whole = reader.readText();
        reader.length = 0;
        if (!whole) {
            return -10 - reader.place;
        }
        now.become(reader.told);
        seen.size = 0;
        tried.size = 0;
        kept[0] = false;
        kept[1] = false;
        return reader.lines;
    }

    public int fault() {
        return reader.faultMet;
    }

    public int rule(int what) {
        switch (what) {
            case 0: return now.ones;
            case 1: return now.frontiers;
            case 2: return now.lawNow;
            case 3: return now.loads;
            default: return BAD;
        }
    }

    public int one(int p, int what) {
        if (!now.hasOne(p)) {
            return BAD;
        }
        Person who = now.people[p];
        switch (what) {
            case 0: return who.kind;
            case 1: return who.weight;
            case 2: return now.ledger(p).shown;
            case 3: return now.ledger(p).eaten;
            case 4: return now.limit(p);
            case 5: return who.money;
            case 6: return who.days;
            default: return BAD;
        }
    }

    public int frontier(int f, int what) {
        if (!now.hasFrontier(f) || !within(what, 0, 1)) {
            return BAD;
        }
        return what == 0 ? now.errors[f] : now.prices[f];
    }

    public int load(int i) {
        return within(i, 0, now.loads - 1) ? now.ounces[i] : BAD;
    }

    // ---- what is changed

    public int law(int v) {
        if (!within(v, 0, MOST_LAW)) {
            return BAD;
        }
        int was = now.lawNow;
        now.lawNow = v;
        return was;
    }

    public int err(int f, int v) {
        if (!now.hasFrontier(f) || !within(v, 0, MOST_ERROR)) {
            return BAD;
        }
        int was = now.errors[f];
        now.errors[f] = v;
        return was;
    }

    public int price(int f, int v) {
        if (!now.hasFrontier(f) || !within(v, 1, MOST_PRICE)) {
            return BAD;
        }
        int was = now.prices[f];
        now.prices[f] = v;
        return was;
    }

    public int body(int p, int v) {
        if (!now.hasOne(p) || !within(v, leanOf(now.people[p].kind), MOST_BODY)) {
            return BAD;
        }
        int was = now.people[p].weight;
        now.people[p].weight = v;
        return was;
    }

    public int book(int p, int v) {
        if (!now.hasOne(p) || !within(v, 0, MOST_BOOK)) {
            return BAD;
        }
        int was = now.ledger(p).shown;
        now.write(p, v);
        return was;
    }

    public int add(int v) {
        if (!within(v, 1, MOST_LOAD)) {
            return BAD;
        }
        if (now.loads >= LOADS) {
            return FULL;
        }
        now.ounces[now.loads] = v;
        now.loads++;
        return now.loads;
    }

    public int drop(int n) {
        int were = now.loads;
        if (!within(n, 0, were)) {
            return BAD;
        }
        now.loads = n;
        return were;
    }

    // ---- days

    public int day(int p, int what) {
        return now.liveAtHome(p, what);
    }

    public int cross(int p, int f, int goods) {
        if (!now.hasOne(p) || !now.hasFrontier(f) || !within(goods, 0, MOST_GOODS)) {
            return BAD;
        }
        return now.pass(p, f, goods);
    }

    public int may(int p) {
        if (!now.hasOne(p)) {
            return BAD;
        }
        Person who = now.people[p];
        int bits = 0;
        for (int what = REST; what <= WALK; what++) {
            if (now.bodyBehind(who, what, who.weight, who.days) != NONE) {
                bits |= 1 << what;
            }
        }
        for (int f = 0; f < now.frontiers; f++) {
            if (now.roomOf(p, f) != NONE) {
                bits |= 1 << (CROSS + f);
            }
        }
        return bits;
    }

    public int room(int p, int f) {
        return now.hasOne(p) && now.hasFrontier(f) ? now.roomOf(p, f) : BAD;
    }

    // ---- seasons

    public int season(int p, int n, int what) {
        boolean asked = what == 0 || within(what, 10, 9 + n);
        if (!now.hasOne(p) || !within(n, 0, SEASON_DAYS) || !asked) {
            return BAD;
        }
        int money = plan.begin(now, p, n);
        return money == NONE || what == 0 ? money : plan.dayOfFirstRow(what - 10);
    }

    public int best(int n, int what) {
        if (!within(n, 0, SEASON_DAYS) || !within(what, 0, 1)) {
            return BAD;
        }
        int who = NONE;
        int most = NONE;
        for (int p = 0; p < now.ones; p++) {
            int money = plan.begin(now, p, n);
            if (money > most) {
                most = money;
                who = p;
            }
        }
        return what == 0 ? who : most;
    }

    // ---- loads

    public int share(int f, int what) {
        boolean asked = what == 0 || within(what, 10, 9 + now.loads);
        if (!now.hasFrontier(f) || !asked) {
            return BAD;
        }
        shares.give(now, f);
        return what == 0 ? shares.most : shares.first[what - 10];
    }

    // ---- between

    public int span(int p, int n, int what) {
        if (!now.hasOne(p) || !within(n, 0, SPAN_DAYS) || !within(what, 0, 2)) {
            return BAD;
        }
        bodies.spread(now, now.people[p], n);
        switch (what) {
            case 0: return bodies.least();
            case 1: return bodies.greatest();
            default: return bodies.howMany();
        }
    }

    public int goods(int p, int f, int n, int s, int what) {
        boolean there = now.hasOne(p) && now.hasFrontier(f);
        boolean told = within(n, 0, SPAN_DAYS) && within(s, 0, MOST_SHOWN) && within(what, 0, 1);
        if (!there || !told) {
            return BAD;
        }
        bodies.spread(now, now.people[p], n);
        int together = s + 2 - now.errors[f];
        return what == 0 ? bodies.fewestGoods(together) : bodies.mostGoods(together);
    }

    // ---- seen

    public int see(int f, int s) {
        if (!now.hasFrontier(f) || !within(s, 0, MOST_SHOWN)) {
            return BAD;
        }
        return seen.note(f, 0, s);
    }

    public int forget(int n) {
        return seen.cut(n);
    }

    public int whose(int what) {
        boolean first = within(what, 10, 9 + seen.size);
        boolean byAll = within(what, 20, 19 + seen.size);
        if (what != 0 && !first && !byAll) {
            return BAD;
        }
        fits.find(now, seen);
        if (what == 0) {
            return fits.rows;
        }
        return first ? fits.first[what - 10] : fits.common[what - 20];
    }

    // ---- scales

    public int probe(int f, int w, int s) {
        if (!now.hasFrontier(f) || !within(w, 0, MOST_BOOK) || !within(s, 0, MOST_SHOWN)) {
            return BAD;
        }
        return tried.note(f, w, s);
    }

    public int clear(int n) {
        return tried.cut(n);
    }

    public int errs(int f) {
        return now.hasFrontier(f) ? tried.errorsOf(f) : BAD;
    }

    // ---- by a seed

    public int drift(int seed, int p, int n, int what) {
        if (!now.hasOne(p) || !within(n, 1, DRIFT_DAYS) || !within(what, 0, 1)) {
            return BAD;
        }
        Person who = now.people[p];
        int weight = who.weight;
        int eaten = now.ledger(p).eaten;
        int chance = seed;
        for (int i = 0; i < n; i++) {
            chance = chance * 1103515245 + 12345;
            int deed = ((chance >>> 16) & 0x7fff) % 3;
            int then = now.bodyBehind(who, deed, weight, who.days + i);
            if (then != NONE) {
                weight = then;
                eaten += deed == EAT ? who.meal() : 0;
            }
        }
        return what == 0 ? weight : eaten;
    }

    // ---- images, sheets

    public int keep(int k) {
        if (!within(k, 0, IMAGES - 1)) {
            return BAD;
        }
        int was = kept[k] ? 1 : 0;
        images[k].become(now);
        kept[k] = true;
        return was;
    }

    public int back(int k) {
        if (!within(k, 0, IMAGES - 1)) {
            return BAD;
        }
        if (!kept[k]) {
            return STATE;
        }
        now.become(images[k]);
        return now.loads;
    }

    public int sheet(int k, int lane, int n) {
        if (!within(k, 0, SHEETS - 1) || !within(lane, 0, 2) || n > CELLS) {
            return BAD;
        }
        if (n < 0) {
            return -10 - SIZE_FAULT;
        }
        sheets[k].renew(lane, n);
        return 1;
    }

    public int lay(int k, int i, int v) {
        if (!within(k, 0, SHEETS - 1)) {
            return BAD;
        }
        int found = sheets[k].faultAt(i);
        if (found != 0) {
            return -10 - found;
        }
        sheets[k].set(i, v);
        return 1;
    }

    public int read(int k, int lane, int f, int n) {
        if (!within(k, 0, SHEETS - 1) || !within(lane, 0, 2) || !within(n, 0, READ_DAYS)) {
            return BAD;
        }
        return readDays(sheets[k], lane, f, n);
    }

    public int torn() {
        return tornBy;
    }

    public int count(int what) {
        switch (what) {
            case 0: return seen.size;
            case 1: return tried.size;
            case 2: return (kept[0] ? 1 : 0) + (kept[1] ? 1 : 0);
            case 3: return reader.length;
            case 4: return sheets[0].there ? sheets[0].size : NONE;
            case 5: return now.sumOfLoads();
            default: return BAD;
        }
    }

    private int readDays(Sheet from, int lane, int f, int n) {
        spare.become(now);
        for (int i = 0; i < n; i++) {
            int cell = f + 2 * i;
            int found = from.faultTakenAs(lane, cell);
            if (found == 0) {
                found = from.faultTakenAs(lane, cell + 1);
            }
            if (found != 0) {
                tornBy = found;
                return i;
            }
            if (now.liveAtHome(from.get(cell), from.get(cell + 1)) < 0) {
                now.become(spare);
                return -20 - i;
            }
        }
        tornBy = 0;
        return n;
    }

    private static int leanOf(int kind) {
        return kind == ABBOT ? 40 : 20;
    }

    private static boolean within(int v, int low, int high) {
        return v >= low && v <= high;
    }

    /** One of the people. */
    private static final class Person {
        int kind;
        int weight;
        int shown;
        int eaten;
        int money;
        int days;

        void become(Person other) {
            kind = other.kind;
            weight = other.weight;
            shown = other.shown;
            eaten = other.eaten;
            money = other.money;
            days = other.days;
        }

        /** What is eaten is as much as the body grows by it. */
        int meal() {
            return growth(EAT);
        }

        /** By how much the body grows on a day of rest, eating or walking. */
        int growth(int what) {
            if (what == EAT) {
                return kind == ABBOT ? 3 : 2;
            }
            if (what == WALK) {
                return kind == WALKER ? -1 : -2;
            }
            return kind == FASTER ? 0 : -1;
        }
    }

    /** All that an image keeps: people, frontiers, law, loads. */
    private static final class Realm {
        final Person[] people = new Person[ONES];
        final int[] errors = new int[FRONTIERS];
        final int[] prices = new int[FRONTIERS];
        final int[] ounces = new int[LOADS];
        int ones;
        int frontiers;
        int loads;
        int lawNow;

        Realm() {
            for (int p = 0; p < ONES; p++) {
                people[p] = new Person();
            }
        }

        void empty() {
            ones = 0;
            frontiers = 0;
            loads = 0;
            lawNow = 0;
        }

        void become(Realm other) {
            ones = other.ones;
            frontiers = other.frontiers;
            loads = other.loads;
            lawNow = other.lawNow;
            for (int p = 0; p < ONES; p++) {
                people[p].become(other.people[p]);
            }
            for (int f = 0; f < FRONTIERS; f++) {
                errors[f] = other.errors[f];
                prices[f] = other.prices[f];
            }
            for (int i = 0; i < LOADS; i++) {
                ounces[i] = other.ounces[i];
            }
        }

        void addOne(int kind, int weight, int shown) {
            Person who = people[ones];
            who.kind = kind;
            who.weight = weight;
            who.shown = shown;
            who.eaten = 0;
            who.money = 0;
            who.days = 0;
            ones++;
        }

        boolean hasOne(int p) {
            return within(p, 0, ones - 1);
        }

        boolean hasFrontier(int f) {
            return within(f, 0, frontiers - 1);
        }

        int sumOfLoads() {
            int sum = 0;
            for (int i = 0; i < loads; i++) {
                sum += ounces[i];
            }
            return sum;
        }

        /** In whom BOOK and EATEN stand: twins share those of the first of them. */
        Person ledger(int p) {
            if (people[p].kind == TWIN) {
                for (int q = 0; q < p; q++) {
                    if (people[q].kind == TWIN) {
                        return people[q];
                    }
                }
            }
            return people[p];
        }

        int limit(int p) {
            Person holder = ledger(p);
            return Math.max(0, holder.shown - holder.eaten);
        }

        void write(int p, int shown) {
            Person holder = ledger(p);
            holder.shown = shown;
            holder.eaten = 0;
        }

        /** The body behind a day at home that begins with such a weight; NONE: it can not be. */
        int bodyBehind(Person who, int what, int weight, int daysAhead) {
            if (what == EAT && lawNow == FASTING_LAW && daysAhead % WEEK == 0) {
                return NONE;
            }
            int then = weight + who.growth(what);
            return within(then, leanOf(who.kind), MOST_BODY) ? then : NONE;
        }

        /** The most goods for one of such a weight and limit at a frontier; NONE: he can not cross. */
        int roomFor(Person who, int weight, int limit, int f) {
            int left = limit - weight - errors[f] + 2;
            if (left < 0 || weight + who.growth(REST) < leanOf(who.kind)) {
                return NONE;
            }
            return Math.min(left, lawNow == GOODS_LAW ? MOST_GOODS_BY_LAW : MOST_GOODS);
        }

        int roomOf(int p, int f) {
            return roomFor(people[p], people[p].weight, limit(p), f);
        }

        int liveAtHome(int p, int what) {
            if (!hasOne(p) || !within(what, REST, WALK)) {
                return BAD;
            }
            Person who = people[p];
            int then = bodyBehind(who, what, who.weight, who.days);
            if (then == NONE) {
                return STATE;
            }
            if (who.days >= MOST_DAYS) {
                return FULL;
            }
            if (what == EAT) {
                ledger(p).eaten += who.meal();
            }
            who.weight = then;
            who.days++;
            return then;
        }

        /** The one, the frontier, the goods have been looked at. */
        int pass(int p, int f, int goods) {
            Person who = people[p];
            if (goods > roomOf(p, f)) {
                return STATE;
            }
            int richer = who.money + goods * prices[f];
            if (who.days >= MOST_DAYS || richer > MOST_MONEY) {
                return FULL;
            }
            int shown = who.weight + goods + errors[f] - 2;
            write(p, shown);
            who.money = richer;
            who.weight += who.growth(REST);
            who.days++;
            return shown;
        }
    }

    /** What was noted of scales, in its order. */
    private static final class Weighings {
        final int most;
        final int[] places;
        final int[] weights;
        final int[] shown;
        int size;

        Weighings(int most) {
            this.most = most;
            places = new int[most];
            weights = new int[most];
            shown = new int[most];
        }

        int note(int f, int weight, int s) {
            if (size >= most) {
                return FULL;
            }
            places[size] = f;
            weights[size] = weight;
            shown[size] = s;
            size++;
            return size;
        }

        int cut(int n) {
            int were = size;
            if (!within(n, 0, were)) {
                return BAD;
            }
            size = n;
            return were;
        }

        int errorsOf(int f) {
            int bits = (1 << (MOST_ERROR + 1)) - 1;
            for (int i = 0; i < size; i++) {
                if (places[i] == f) {
                    int error = shown[i] - weights[i] + 2;
                    bits &= within(error, 0, MOST_ERROR) ? 1 << error : 0;
                }
            }
            return bits;
        }
    }

    /** The tape, and its text read into a realm of its own, so that a fault leaves what was told. */
    private static final class Reader {
        static final int END = 0, NAME = 1, NUMBER = 2, SEMICOLON = 3;
        static final int NO_TOKEN = 1, MISPLACED = 2, OUT_OF_BOUNDS = 3, SECOND_LAW = 4, TOO_MANY = 5;
        static final int FIGURES = 3;

        final byte[] tape = new byte[TAPE];
        final Realm told = new Realm();
        int length;
        int at;
        int place;
        int token;
        int value;
        int faultMet;
        int lines;
        boolean lawTold;

        boolean takeEight(long v) {
            if (length + 8 > TAPE) {
                return false;
            }
            for (int i = 0; i < 8; i++) {
                tape[length + i] = (byte) (v >>> (56 - 8 * i));
            }
            length += 8;
            return true;
        }

        boolean readText() {
            told.empty();
            at = 0;
            faultMet = 0;
            lawTold = false;
            // A line takes at least one byte, so the lines can not be more than the bytes.
            for (lines = 0; lines <= length; lines++) {
                if (!next()) {
                    return false;
                }
                if (token == END) {
                    return true;
                }
                if (!readLine()) {
                    return false;
                }
            }
            return true;
        }

        private boolean readLine() {
            if (named("law")) {
                return readLaw();
            }
            if (named("one")) {
                return readOne();
            }
            if (named("frontier")) {
                return readFrontier();
            }
            if (named("load")) {
                return readLoads();
            }
            return wrong(MISPLACED);
        }

        private boolean readLaw() {
            if (lawTold) {
                return wrong(SECOND_LAW);
            }
            lawTold = true;
            if (!number(0, MOST_LAW)) {
                return false;
            }
            told.lawNow = value;
            return semicolon();
        }

        private boolean readOne() {
            if (told.ones >= ONES) {
                return wrong(TOO_MANY);
            }
            if (!next()) {
                return false;
            }
            int kind = kindNamed();
            if (kind == NONE) {
                return wrong(MISPLACED);
            }
            if (!number(leanOf(kind), MOST_BODY)) {
                return false;
            }
            int weight = value;
            if (!number(0, MOST_BOOK)) {
                return false;
            }
            told.addOne(kind, weight, value);
            return semicolon();
        }

        private boolean readFrontier() {
            if (told.frontiers >= FRONTIERS) {
                return wrong(TOO_MANY);
            }
            if (!number(0, MOST_ERROR)) {
                return false;
            }
            told.errors[told.frontiers] = value;
            if (!number(1, MOST_PRICE)) {
                return false;
            }
            told.prices[told.frontiers] = value;
            told.frontiers++;
            return semicolon();
        }

        private boolean readLoads() {
            for (int i = 0; i <= LOADS; i++) {
                if (!next()) {
                    return false;
                }
                if (i > 0 && token == SEMICOLON) {
                    return true;
                }
                if (token != NUMBER) {
                    return wrong(MISPLACED);
                }
                if (told.loads >= LOADS) {
                    return wrong(TOO_MANY);
                }
                if (!within(value, 1, MOST_LOAD)) {
                    return wrong(OUT_OF_BOUNDS);
                }
                told.ounces[told.loads] = value;
                told.loads++;
            }
            return wrong(TOO_MANY);
        }

        private int kindNamed() {
            if (named("plain")) {
                return PLAIN;
            }
            if (named("abbot")) {
                return ABBOT;
            }
            if (named("faster")) {
                return FASTER;
            }
            if (named("twin")) {
                return TWIN;
            }
            return named("walker") ? WALKER : NONE;
        }

        private boolean named(String word) {
            if (token != NAME || at - place != word.length()) {
                return false;
            }
            for (int i = 0; i < word.length(); i++) {
                if (tape[place + i] != word.charAt(i)) {
                    return false;
                }
            }
            return true;
        }

        private boolean number(int low, int high) {
            if (!next()) {
                return false;
            }
            if (token != NUMBER) {
                return wrong(MISPLACED);
            }
            return within(value, low, high) || wrong(OUT_OF_BOUNDS);
        }

        private boolean semicolon() {
            return next() && (token == SEMICOLON || wrong(MISPLACED));
        }

        /** Reads the token that comes; its place is that of a fault met with it. */
        private boolean next() {
            while (at < length && tape[at] == ' ') {
                at++;
            }
            place = at;
            if (at >= length) {
                token = END;
                return true;
            }
            if (tape[at] == ';') {
                at++;
                token = SEMICOLON;
                return true;
            }
            skipLetters();
            if (at > place) {
                token = NAME;
                return true;
            }
            readFigures();
            token = NUMBER;
            return within(at - place, 1, FIGURES) || wrong(NO_TOKEN);
        }

        private void skipLetters() {
            while (at < length && tape[at] >= 'a' && tape[at] <= 'z') {
                at++;
            }
        }

        private void readFigures() {
            value = 0;
            while (at < length && tape[at] >= '0' && tape[at] <= '9') {
                value = value * 10 + (tape[at] - '0');
                at++;
            }
        }

        private boolean wrong(int which) {
            faultMet = which;
            return false;
        }
    }

    /**
     * The most that one can earn in a season. What can still be earned hangs on the day, the body
     * and the limit alone, so it is kept by these in a table: the rows are far more than these.
     */
    private static final class Season {
        static final int SLOTS = 2048;

        final int[] keys = new int[SLOTS];
        final int[] worths = new int[SLOTS];
        Realm realm;
        Person who;
        int limit;
        int length;

        int begin(Realm in, int p, int n) {
            realm = in;
            who = in.people[p];
            limit = in.limit(p);
            length = n;
            Arrays.fill(keys, 0);
            return most(0, who.weight, limit);
        }

        /** The most money from day k on; NONE: no row can be. */
        private int most(int k, int weight, int bound) {
            if (k >= length) {
                return 0;
            }
            int key = ((k + 1) << 16) | (weight << 8) | bound;
            int slot = slotOf(key);
            if (keys[slot] == key) {
                return worths[slot];
            }
            int worth = NONE;
            for (int what = REST; what < CROSS + realm.frontiers; what++) {
                worth = Math.max(worth, worthOf(what, k, weight, bound));
            }
            // The days behind may have filled the slot that was free.
            slot = slotOf(key);
            if (keys[slot] == 0) {
                keys[slot] = key;
                worths[slot] = worth;
            }
            return worth;
        }

        private int worthOf(int what, int k, int weight, int bound) {
            if (what >= CROSS) {
                return worthOfCrossing(what - CROSS, k, weight, bound);
            }
            int then = realm.bodyBehind(who, what, weight, who.days + k);
            if (then == NONE) {
                return NONE;
            }
            return most(k + 1, then, what == EAT ? Math.max(0, bound - who.meal()) : bound);
        }

        private int worthOfCrossing(int f, int k, int weight, int bound) {
            int goods = realm.roomFor(who, weight, bound, f);
            if (goods == NONE) {
                return NONE;
            }
            int shown = weight + goods + realm.errors[f] - 2;
            int later = most(k + 1, weight + who.growth(REST), shown);
            return later == NONE ? NONE : later + goods * realm.prices[f];
        }

        /** Where the key stands or may be put; a slot of another key, if the table is full. */
        private int slotOf(int key) {
            int slot = (key * 0x9E3779B1) >>> 21;
            for (int i = 0; i < SLOTS && keys[slot] != key && keys[slot] != 0; i++) {
                slot = (slot + 1) & (SLOTS - 1);
            }
            return slot;
        }

        /** Day k of the first row that earns most; there is a row. */
        int dayOfFirstRow(int k) {
            int weight = who.weight;
            int bound = limit;
            int what = REST;
            for (int i = 0; i <= k; i++) {
                what = firstDay(i, weight, bound);
                if (what >= CROSS) {
                    int f = what - CROSS;
                    bound = weight + realm.roomFor(who, weight, bound, f) + realm.errors[f] - 2;
                    weight += who.growth(REST);
                } else {
                    weight += who.growth(what);
                    bound = what == EAT ? Math.max(0, bound - who.meal()) : bound;
                }
            }
            return what;
        }

        private int firstDay(int k, int weight, int bound) {
            int worth = most(k, weight, bound);
            int last = CROSS + realm.frontiers - 1;
            for (int what = REST; what < last; what++) {
                if (worthOf(what, k, weight, bound) == worth) {
                    return what;
                }
            }
            return last;
        }
    }

    /** Loads given to people, tried in their order: only what is more takes the first one's place. */
    private static final class Shares {
        final int[] left = new int[ONES];
        final int[] given = new int[LOADS];
        final int[] first = new int[LOADS];
        Realm realm;
        int most;

        void give(Realm in, int f) {
            realm = in;
            most = -1;
            for (int p = 0; p < in.ones; p++) {
                left[p] = Math.max(0, in.roomOf(p, f));
            }
            giveFrom(0, 0, in.sumOfLoads());
        }

        private void giveFrom(int i, int ounces, int ahead) {
            if (ounces + ahead <= most) {
                return;
            }
            if (i >= realm.loads) {
                most = ounces;
                System.arraycopy(given, 0, first, 0, LOADS);
                return;
            }
            int weight = realm.ounces[i];
            given[i] = NONE;
            giveFrom(i + 1, ounces, ahead - weight);
            for (int p = 0; p < realm.ones; p++) {
                if (weight <= left[p]) {
                    given[i] = p;
                    left[p] -= weight;
                    giveFrom(i + 1, ounces + weight, ahead - weight);
                    left[p] += weight;
                }
            }
        }
    }

    /** The bodies that one can have behind days at home. */
    private static final class Bodies {
        private int[] can = new int[MOST_BODY + 1];
        private int[] then = new int[MOST_BODY + 1];

        void spread(Realm realm, Person who, int n) {
            Arrays.fill(can, 0);
            can[who.weight] = 1;
            for (int i = 0; i < n; i++) {
                spreadDay(realm, who, who.days + i);
            }
        }

        private void spreadDay(Realm realm, Person who, int daysAhead) {
            Arrays.fill(then, 0);
            for (int weight = leanOf(who.kind); weight <= MOST_BODY; weight++) {
                if (can[weight] == 1) {
                    for (int what = REST; what <= WALK; what++) {
                        int next = realm.bodyBehind(who, what, weight, daysAhead);
                        if (next != NONE) {
                            then[next] = 1;
                        }
                    }
                }
            }
            int[] before = can;
            can = then;
            then = before;
        }

        private boolean isThere(int weight) {
            return within(weight, 0, MOST_BODY) && can[weight] == 1;
        }

        int least() {
            for (int weight = 0; weight <= MOST_BODY; weight++) {
                if (can[weight] == 1) {
                    return weight;
                }
            }
            return NONE;
        }

        int greatest() {
            for (int weight = MOST_BODY; weight >= 0; weight--) {
                if (can[weight] == 1) {
                    return weight;
                }
            }
            return NONE;
        }

        int howMany() {
            int many = 0;
            for (int weight = 0; weight <= MOST_BODY; weight++) {
                many += can[weight];
            }
            return many;
        }

        int fewestGoods(int together) {
            for (int goods = 0; goods <= MOST_GOODS; goods++) {
                if (isThere(together - goods)) {
                    return goods;
                }
            }
            return NONE;
        }

        int mostGoods(int together) {
            for (int goods = MOST_GOODS; goods >= 0; goods--) {
                if (isThere(together - goods)) {
                    return goods;
                }
            }
            return NONE;
        }
    }

    /** The rows of people, each another, whose weighings those that were seen can have been. */
    private static final class Fits {
        final int[] row = new int[SEEN];
        final int[] first = new int[SEEN];
        final int[] common = new int[SEEN];
        final boolean[] taken = new boolean[ONES];
        Realm realm;
        Weighings seen;
        int rows;

        void find(Realm in, Weighings of) {
            realm = in;
            seen = of;
            rows = 0;
            Arrays.fill(first, NONE);
            Arrays.fill(common, NONE);
            findFrom(0);
        }

        private void findFrom(int k) {
            if (k >= seen.size) {
                noteRow();
                return;
            }
            for (int p = 0; p < realm.ones; p++) {
                if (!taken[p] && fits(p, seen.places[k], seen.shown[k])) {
                    taken[p] = true;
                    row[k] = p;
                    findFrom(k + 1);
                    taken[p] = false;
                }
            }
        }

        private boolean fits(int p, int f, int s) {
            int goods = s - realm.people[p].weight - realm.errors[f] + 2;
            return within(goods, 0, realm.roomOf(p, f));
        }

        private void noteRow() {
            for (int k = 0; k < seen.size; k++) {
                if (rows == 0) {
                    first[k] = row[k];
                    common[k] = row[k];
                } else if (common[k] != row[k]) {
                    common[k] = NONE;
                }
            }
            rows++;
        }
    }

    /** A row of cells of a lane, or nothing; made once, as a new one is only told anew. */
    private static final class Sheet {
        final int[] cells = new int[CELLS];
        boolean there;
        int lane;
        int size;

        void renew(int newLane, int newSize) {
            there = true;
            lane = newLane;
            size = newSize;
            Arrays.fill(cells, 0);
        }

        /** What the machine finds at a cell; 0: the cell is there. */
        int faultAt(int i) {
            if (!there) {
                return NULL_FAULT;
            }
            return within(i, 0, size - 1) ? 0 : INDEX_FAULT;
        }

        /** The same for a sheet taken as of a lane: the machine casts ahead of the index, but lets nothing pass. */
        int faultTakenAs(int asLane, int i) {
            return there && lane != asLane ? CAST_FAULT : faultAt(i);
        }

        int get(int i) {
            return cells[i];
        }

        void set(int i, int v) {
            if (lane == 0) {
                cells[i] = (byte) v;
            } else if (lane == 1) {
                cells[i] = (short) v;
            } else {
                cells[i] = v;
            }
        }
    }
}
