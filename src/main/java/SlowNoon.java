/** A town whose noon is its slowest clock's; the document DOC.md says what each call answers. */
public final class SlowNoon {
    public static final int NONE = -1, NEVER = 10000;

    private static final int DAYS_MOST = 7;
    private static final int CLOCKS_MOST = 6;
    private static final int TRADES_MOST = 5;
    private static final int PLACES = 10;
    private static final int ACTS_MOST = 40;
    private static final int TAPE_MOST = 800;
    private static final int FEED_BYTES = 20;
    private static final int SLOTS = 4;
    private static final int ROW_MOST = 60;
    private static final int WIDTHS = 4;
    private static final int IMAGES = 3;
    private static final int MINUTE_MOST = 600;
    private static final int SEEN_MOST = 1000;
    private static final int RENT_MOST = 999;
    private static final int LATE_MOST = 60;
    private static final int LOSES_MOST = 9;
    private static final int MENDS_MOST = 3;
    private static final int WEIGHTS = 6;
    private static final int WEIGHT_COST = 10;
    private static final int SLEEP = 30;
    private static final int TENTHS = 10;
    private static final int SEED_MOST = 2000000000;
    private static final int LUCK_MOST = 20;

    private static final int NO_SUCH = -2;
    private static final int BELOW_NOTHING = -3;
    private static final int FAULTY = -4;
    private static final int NOT_NOW = -5;
    private static final int HAS_NOTHING = -6;
    private static final int BEYOND = -7;
    private static final int UNLIKE = -8;
    private static final int NO_LATE = -1000;
    private static final int NO_PRICE = -1000000;

    private static final int MENDED = 0;
    private static final int OILED = 1;
    private static final int STOPPED = 2;
    private static final int BURIED = 3;
    private static final int REVIVED = 4;

    private final Teller teller;
    private final Town now;
    private final Town draft;
    private final Town[] images;
    private int imagesKept;
    private final Street street;
    private final Row[] rows;
    private final Mender mender;
    private final Bellman bellman;
    private final Race owners;
    private final Witness witness;
    private final Sleeper sleeper;

    public SlowNoon() {
        teller = new Teller();
        now = new Town();
        draft = new Town();
        images = new Town[IMAGES];
        for (int k = 0; k < IMAGES; k++) {
            images[k] = new Town();
        }
        street = new Street();
        rows = new Row[SLOTS];
        for (int slot = 0; slot < SLOTS; slot++) {
            rows[slot] = new Row();
        }
        mender = new Mender();
        bellman = new Bellman();
        owners = new Race();
        witness = new Witness();
        sleeper = new Sleeper();
    }

    // ---- the tape and the town that is told ----

    public int feed(int a, int b, int c, int d, int e) {
        if (teller.length + FEED_BYTES > TAPE_MOST) {
            return NONE;
        }
        teller.take(a);
        teller.take(b);
        teller.take(c);
        teller.take(d);
        teller.take(e);
        return teller.length;
    }

    public int end(int n) {
        if (n < 0 || n > teller.length) {
            return NONE;
        }
        teller.length = n;
        return n;
    }

    public int town() {
        if (!teller.tell(draft)) {
            return FAULTY;
        }
        teller.length = 0;
        now.copyFrom(draft);
        street.settle(now);
        return now.lines;
    }

    public int fault(int what) {
        switch (what) {
            case 0: return teller.fault;
            case 1: return teller.faultPlace;
            default: return NONE;
        }
    }

    public int clock(int clock, int what) {
        if (!isClock(clock)) {
            return NO_LATE;
        }
        switch (what) {
            case 0: return now.place[clock];
            case 1: return now.late[clock];
            case 2: return now.loses[clock];
            case 3: return now.rent[clock];
            case 4: return now.dead[clock];
            default: return NO_LATE;
        }
    }

    // ---- strikes, noons and what they cost ----

    public int late(int clock, int day) {
        return isClock(clock) && isDay(day) ? street.lates[day][clock] : NO_LATE;
    }

    public int noon(int day) {
        return isDay(day) ? noonOn(day) : NO_LATE;
    }

    public int counts(int day) {
        return isDay(day) ? street.alive[day] : NO_SUCH;
    }

    public int slowest(int day) {
        return isDay(day) ? slowestOn(day) : NO_SUCH;
    }

    public int order(int day, int i) {
        return isDay(day) ? street.ranked(day, i) : NO_SUCH;
    }

    public int struck(int day, int minute) {
        if (!isDay(day) || !isWithin(minute, -SEEN_MOST, SEEN_MOST)) {
            return NO_SUCH;
        }
        int bits = 0;
        for (int clock = 0; clock < CLOCKS_MOST; clock++) {
            if (street.isAlive(clock, day) && street.lates[day][clock] <= minute) {
                bits |= 1 << clock;
            }
        }
        return bits;
    }

    public int gap(int day) {
        if (!isDay(day)) {
            return NO_SUCH;
        }
        if (street.alive[day] == 0) {
            return 0;
        }
        int noon = noonOn(day);
        int earlier = Street.noonOf(street.lates[day], withoutSlowest(day));
        if (noon == NEVER) {
            return earlier == NEVER ? 0 : NEVER;
        }
        return noon - earlier;
    }

    public int costs(int day) {
        return isDay(day) ? waitOn(day, street.alive[day]) : NO_SUCH;
    }

    public int waits() {
        return hasTown() ? waitWithout(0) : NO_SUCH;
    }

    public int worst() {
        if (!hasTown()) {
            return NO_SUCH;
        }
        int worst = NONE;
        int most = 0;
        for (int day = 0; day < street.days; day++) {
            int wait = waitOn(day, street.alive[day]);
            if (wait > most) {
                most = wait;
                worst = day;
            }
        }
        return worst;
    }

    public int reign(int clock) {
        return isClock(clock) ? reignOf(clock) : NO_SUCH;
    }

    public int rents(int clock) {
        return isClock(clock) ? rentsOf(clock) : NO_SUCH;
    }

    public int without(int clock) {
        return isClock(clock) ? waitWithout(1 << clock) : NO_SUCH;
    }

    public int best() {
        if (!hasTown()) {
            return NO_SUCH;
        }
        int best = NONE;
        int least = waitWithout(0);
        for (int clock = 0; clock < street.clocks; clock++) {
            int wait = waitWithout(1 << clock);
            if (wait < least) {
                least = wait;
                best = clock;
            }
        }
        return best;
    }

    public int deals() {
        if (!hasTown()) {
            return NO_SUCH;
        }
        int bits = 0;
        for (int clock = 0; clock < street.clocks; clock++) {
            if (priceOf(clock) > 0) {
                bits |= 1 << clock;
            }
        }
        return bits;
    }

    public int price(int clock) {
        return isClock(clock) ? priceOf(clock) : NO_PRICE;
    }

    public int chorus(int day) {
        if (!isDay(day)) {
            return NO_SUCH;
        }
        int most = 0;
        for (int clock = 0; clock < CLOCKS_MOST; clock++) {
            if (street.strikes(clock, day)) {
                most = Math.max(most, Integer.bitCount(street.together(clock, day)));
            }
        }
        return most;
    }

    public int tolls(int day) {
        if (!isDay(day)) {
            return NO_SUCH;
        }
        int minutes = 0;
        for (int clock = 0; clock < CLOCKS_MOST; clock++) {
            int belowClock = (1 << clock) - 1;
            if (street.strikes(clock, day) && (street.together(clock, day) & belowClock) == 0) {
                minutes++;
            }
        }
        return minutes;
    }

    public int register(int day) {
        return isDay(day) ? ((1 << street.clocks) - 1) & ~street.alive[day] : NO_SUCH;
    }

    public int heir(int day) {
        return isDay(day) ? Street.lastOf(street.lates[day], withoutSlowest(day)) : NO_SUCH;
    }

    public int watch(int m) {
        if (!isMinute(m) || !hasTown()) {
            return NO_SUCH;
        }
        int bits = 0;
        for (int day = 0; day < street.days; day++) {
            if (noonOn(day) <= m) {
                bits |= 1 << day;
            }
        }
        return bits;
    }

    public int alarm(int m) {
        if (!isMinute(m) || !hasTown()) {
            return NO_SUCH;
        }
        for (int day = 0; day < street.days; day++) {
            if (noonOn(day) > m) {
                return day;
            }
        }
        return NONE;
    }

    public int meet(int clock, int other) {
        if (!isClock(clock) || !isClock(other)) {
            return NO_SUCH;
        }
        for (int day = 0; day < street.days; day++) {
            if (street.lates[day][clock] == street.lates[day][other]) {
                return day;
            }
        }
        return NONE;
    }

    public int passes(int clock, int other) {
        if (!isClock(clock) || !isClock(other)) {
            return NO_SUCH;
        }
        int bits = 0;
        for (int day = 0; day < street.days; day++) {
            if (street.lates[day][clock] > street.lates[day][other]) {
                bits |= 1 << day;
            }
        }
        return bits;
    }

    public int slack(int clock, int day) {
        if (!isClock(clock) || !isDay(day)) {
            return NO_SUCH;
        }
        int noon = noonOn(day);
        return noon == NEVER ? NEVER : Math.max(0, noon - street.lates[day][clock]);
    }

    public int spread(int day) {
        if (!isDay(day)) {
            return NO_SUCH;
        }
        int first = street.ranked(day, 0);
        if (first == NONE) {
            return 0;
        }
        int noon = noonOn(day);
        return noon == NEVER ? NEVER : noon - street.lates[day][first];
    }

    public int steady() {
        if (!hasTown()) {
            return NO_SUCH;
        }
        int steady = NONE;
        int least = 0;
        for (int clock = 0; clock < street.clocks; clock++) {
            int width = swing(clock);
            if (steady == NONE || width < least) {
                least = width;
                steady = clock;
            }
        }
        return steady;
    }

    public int mean(int clock, int what) {
        if (!isClock(clock) || !isWithin(what, 0, 1)) {
            return NO_LATE;
        }
        int sum = 0;
        int strikes = 0;
        for (int day = 0; day < street.days; day++) {
            if (street.lates[day][clock] != NEVER) {
                sum += street.lates[day][clock];
                strikes++;
            }
        }
        return strikes == 0 ? fraction(NEVER, 1, what) : fraction(sum, strikes, what);
    }

    // ---- clocks to be buried and mended ----

    public int bury(int m) {
        return isMinute(m) && hasTown() ? Integer.bitCount(tooLate(m)) : NO_SUCH;
    }

    public int buries(int m) {
        return isMinute(m) && hasTown() ? tooLate(m) : NO_SUCH;
    }

    public int mends(int n) {
        if (!isWithin(n, 0, MENDS_MOST) || !hasTown()) {
            return NO_SUCH;
        }
        mender.search(now, street, n, NONE);
        return mender.least;
    }

    public int mended(int n) {
        if (!isWithin(n, 0, MENDS_MOST) || !hasTown()) {
            return NO_SUCH;
        }
        mender.search(now, street, n, NONE);
        return mender.first;
    }

    public int fewest(int m) {
        if (!isMinute(m) || !hasTown()) {
            return NO_SUCH;
        }
        mender.search(now, street, MENDS_MOST, m);
        return mender.least == 0 ? mender.few : NONE;
    }

    // ---- the bellman's round ----

    public int round(int day) {
        if (!isDay(day)) {
            return NO_SUCH;
        }
        bellman.begin(now, street.lates[day]);
        bellman.search(now.home, street.alive[day]);
        return bellman.soonest;
    }

    public int rounds(int day, int i) {
        if (!isDay(day)) {
            return NO_SUCH;
        }
        bellman.begin(now, street.lates[day]);
        bellman.search(now.home, street.alive[day]);
        return i >= 0 && i < bellman.size ? bellman.soonestWay[i] : NONE;
    }

    public int goes(int slot, int day) {
        if (!isDay(day) || !isSlot(slot)) {
            return NO_SUCH;
        }
        Row row = rows[slot];
        if (!row.isThere()) {
            return HAS_NOTHING;
        }
        if (!Bellman.isWay(row, street.alive[day])) {
            return NO_SUCH;
        }
        bellman.begin(now, street.lates[day]);
        return bellman.walk(now.home, row);
    }

    public int lodge(int day) {
        if (!isDay(day)) {
            return NO_SUCH;
        }
        bellman.begin(now, street.lates[day]);
        int lodge = 0;
        int soonest = NEVER;
        for (int place = 0; place < PLACES; place++) {
            bellman.search(place, street.alive[day]);
            if (bellman.soonest < soonest) {
                soonest = bellman.soonest;
                lodge = place;
            }
        }
        return lodge;
    }

    // ---- quorums ----

    public int quorum(int day, int k) {
        return isDay(day) && isWithin(k, 1, CLOCKS_MOST) ? street.lateOfRank(day, k - 1) : NO_SUCH;
    }

    public int law(int m) {
        if (!isMinute(m) || !hasTown()) {
            return NO_SUCH;
        }
        int greatest = CLOCKS_MOST;
        for (int day = 0; day < street.days; day++) {
            while (greatest > 0 && street.lateOfRank(day, greatest - 1) > m) {
                greatest--;
            }
        }
        return greatest;
    }

    public int middle(int day) {
        if (!isDay(day)) {
            return NO_LATE;
        }
        int counting = Integer.bitCount(street.alive[day]);
        return counting == 0 ? NEVER : street.lateOfRank(day, (counting - 1) / 2);
    }

    // ---- owners who race ----

    public int rests(int clock, int other, int day) {
        return hasRace(clock, other, day) ? owners.rests : NO_SUCH;
    }

    public int rest(int clock, int other, int day) {
        return hasRace(clock, other, day) ? owners.first : NO_SUCH;
    }

    public int race(int clock, int other, int day) {
        return hasRace(clock, other, day) ? owners.latest : NO_SUCH;
    }

    // ---- noons that were seen ----

    public int away(int slot) {
        int code = seekAway(slot);
        return code == 0 ? witness.sets : code;
    }

    public int gone(int slot) {
        int code = seekAway(slot);
        return code == 0 ? witness.fewestSet : code;
    }

    public int surely(int slot) {
        int code = seekAway(slot);
        return code == 0 ? witness.inAll : code;
    }

    public int ask(int slot) {
        int code = seekAway(slot);
        return code == 0 ? witness.bestQuestion() : code;
    }

    public int under(int slot) {
        int code = seekUnder(slot);
        return code == 0 ? witness.pairs : code;
    }

    public int floor(int slot) {
        int code = seekUnder(slot);
        return code == 0 ? witness.firstPair : code;
    }

    // ---- oversleeping ----

    public int chance(int day, int m, int what) {
        if (!isDay(day) || !isMinute(m) || !isWithin(what, 0, 1)) {
            return NO_SUCH;
        }
        sleeper.weigh(street.lates[day], street.alive[day], now.odds, m);
        return fraction(sleeper.above, sleeper.below, what);
    }

    public int sure(int day, int p) {
        if (!isDay(day) || !isWithin(p, 0, 100)) {
            return NO_SUCH;
        }
        for (int m = 0; m <= MINUTE_MOST; m++) {
            sleeper.weigh(street.lates[day], street.alive[day], now.odds, m);
            if (100 * sleeper.above >= p * sleeper.below) {
                return m;
            }
        }
        return NONE;
    }

    // slowest() stays so whenever it oversleeps itself; another one would have to oversleep while
    // slowest() does not, which is less likely at any odds but 0, and at 0 nothing changes.
    public int likely(int day) {
        return isDay(day) ? slowestOn(day) : NO_SUCH;
    }

    // ---- acts ----

    public int mend(int clock, int day) {
        return actOnLate(MENDED, clock, day);
    }

    public int oil(int clock, int day) {
        return actOnLate(OILED, clock, day);
    }

    public int stop(int clock, int day) {
        return actOnLate(STOPPED, clock, day);
    }

    public int enter(int clock, int day, int on) {
        if (!isClock(clock) || !isDay(day) || !isWithin(on, 0, 1)) {
            return NO_SUCH;
        }
        if (now.acts >= ACTS_MOST) {
            return NOT_NOW;
        }
        int wasDead = street.isAlive(clock, day) ? 0 : 1;
        act(on == 1 ? BURIED : REVIVED, clock, day);
        return wasDead;
    }

    public int undo() {
        if (!hasTown()) {
            return NO_SUCH;
        }
        if (now.acts == 0) {
            return NOT_NOW;
        }
        now.acts--;
        street.settle(now);
        return now.acts;
    }

    public int anew() {
        if (!hasTown()) {
            return NO_SUCH;
        }
        int acts = now.acts;
        now.acts = 0;
        street.settle(now);
        return acts;
    }

    // ---- days drawn ----

    public int drawn(int seed, int what) {
        if (!isWithin(seed, 0, SEED_MOST) || !isWithin(what, 0, 1) || !hasTown()) {
            return NO_SUCH;
        }
        sleeper.begin(seed);
        int wait = 0;
        int overslept = 0;
        for (int day = 0; day < street.days; day++) {
            if (sleeper.drawDay(street.lates[day], street.alive[day], now.odds)) {
                overslept |= 1 << day;
            }
            wait += Town.waitOf(Street.noonOf(sleeper.lates, street.alive[day]), now.waiting);
        }
        return what == 0 ? wait : overslept;
    }

    public int luck(int seed, int n, int clock, int day) {
        if (!isWithin(seed, 0, SEED_MOST) || !isWithin(n, 1, LUCK_MOST) || !isClock(clock) || !isDay(day)) {
            return NO_SUCH;
        }
        int times = 0;
        for (int i = 0; i < n; i++) {
            if (slowestDrawn(seed + i, day) == clock) {
                times++;
            }
        }
        return times;
    }

    public int rate(int clock, int n) {
        if (!isClock(clock) || !isWithin(n, 0, RENT_MOST)) {
            return NO_SUCH;
        }
        if (now.acts > 0) {
            return NOT_NOW;
        }
        int before = now.rent[clock];
        now.rent[clock] = n;
        return before;
    }

    public int count(int what) {
        switch (what) {
            case 0: return now.days;
            case 1: return now.home;
            case 2: return now.odds;
            case 3: return now.clocks;
            case 4: return now.trades;
            case 5: return now.acts;
            case 6: return now.lines;
            case 7: return teller.length;
            case 8: return rowsThere();
            default: return NONE;
        }
    }

    // ---- images and rows ----

    public int image(int k) {
        if (!isWithin(k, 0, IMAGES - 1)) {
            return NO_SUCH;
        }
        images[k].copyFrom(now);
        imagesKept |= 1 << k;
        return 0;
    }

    public int back(int k) {
        if (!isWithin(k, 0, IMAGES - 1)) {
            return NO_SUCH;
        }
        if ((imagesKept >> k & 1) == 0) {
            return HAS_NOTHING;
        }
        now.copyFrom(images[k]);
        street.settle(now);
        return 0;
    }

    public int row(int slot, int width, int n) {
        if (!isSlot(slot) || !isWithin(width, 0, WIDTHS - 1) || n > ROW_MOST) {
            return NO_SUCH;
        }
        if (n < 0) {
            return BELOW_NOTHING;
        }
        rows[slot].begin(width, n);
        return 0;
    }

    public int write(int slot, int i, long v) {
        if (!isSlot(slot)) {
            return NO_SUCH;
        }
        Row row = rows[slot];
        if (!row.isThere()) {
            return HAS_NOTHING;
        }
        if (i < 0 || i >= row.size) {
            return BEYOND;
        }
        row.numbers[i] = Row.cut(v, row.width);
        return 0;
    }

    public int paste(int slot, int i, int to, int k, int n) {
        if (!isSlot(slot) || !isSlot(to)) {
            return NO_SUCH;
        }
        Row from = rows[slot];
        Row into = rows[to];
        if (!from.isThere() || !into.isThere()) {
            return HAS_NOTHING;
        }
        if (from.width != into.width) {
            return UNLIKE;
        }
        if (!from.holds(i, n) || !into.holds(k, n)) {
            return BEYOND;
        }
        System.arraycopy(from.numbers, i, into.numbers, k, n);
        return 0;
    }

    // ---- what the calls share ----

    private static boolean isWithin(int n, int least, int most) {
        return n >= least && n <= most;
    }

    private static boolean isMinute(int m) {
        return isWithin(m, 0, MINUTE_MOST);
    }

    private static boolean isSlot(int slot) {
        return isWithin(slot, 0, SLOTS - 1);
    }

    private boolean hasTown() {
        return now.lines > 0;
    }

    private boolean isDay(int day) {
        return day >= 0 && day < street.days;
    }

    private boolean isClock(int clock) {
        return clock >= 0 && clock < street.clocks;
    }

    private int noonOn(int day) {
        return Street.noonOf(street.lates[day], street.alive[day]);
    }

    private int slowestOn(int day) {
        return Street.lastOf(street.lates[day], street.alive[day]);
    }

    private int withoutSlowest(int day) {
        int slowest = slowestOn(day);
        return slowest == NONE ? 0 : street.alive[day] & ~(1 << slowest);
    }

    private int waitOn(int day, int bits) {
        return Town.waitOf(Street.noonOf(street.lates[day], bits), now.waiting);
    }

    private int waitWithout(int bits) {
        int wait = 0;
        for (int day = 0; day < street.days; day++) {
            wait += waitOn(day, street.alive[day] & ~bits);
        }
        return wait;
    }

    private int reignOf(int clock) {
        int bits = 0;
        for (int day = 0; day < street.days; day++) {
            if (slowestOn(day) == clock) {
                bits |= 1 << day;
            }
        }
        return bits;
    }

    private int rentsOf(int clock) {
        return now.rent[clock] * Integer.bitCount(reignOf(clock));
    }

    private int priceOf(int clock) {
        return waitWithout(0) - waitWithout(1 << clock) - rentsOf(clock);
    }

    private int swing(int clock) {
        int least = street.lates[0][clock];
        int greatest = least;
        for (int day = 1; day < street.days; day++) {
            least = Math.min(least, street.lates[day][clock]);
            greatest = Math.max(greatest, street.lates[day][clock]);
        }
        return greatest - least;
    }

    // Each of these must be dead whatever the others are, so that no other set is as small.
    private int tooLate(int m) {
        int bits = 0;
        for (int day = 0; day < street.days; day++) {
            for (int clock = 0; clock < CLOCKS_MOST; clock++) {
                if (street.isAlive(clock, day) && street.lates[day][clock] > m) {
                    bits |= 1 << clock;
                }
            }
        }
        return bits;
    }

    private static int fraction(int above, int below, int what) {
        int a = Math.abs(above);
        int b = below;
        for (int i = 0; i < 64 && b > 0; i++) {
            int c = a % b;
            a = b;
            b = c;
        }
        if (a < 1) {
            return 0;
        }
        return what == 0 ? above / a : below / a;
    }

    private boolean hasRace(int clock, int other, int day) {
        if (!isClock(clock) || !isClock(other) || clock == other || !isDay(day)) {
            return false;
        }
        if (!street.strikes(clock, day) || !street.strikes(other, day)) {
            return false;
        }
        owners.run(now, street.lates[day], street.alive[day], clock, other);
        return true;
    }

    private int seekAway(int slot) {
        int code = hear(slot);
        if (code == 0) {
            witness.searchAway(street);
        }
        return code;
    }

    private int seekUnder(int slot) {
        int code = hear(slot);
        if (code == 0) {
            witness.searchUnder(street);
        }
        return code;
    }

    private int hear(int slot) {
        if (!isSlot(slot) || !hasTown()) {
            return NO_SUCH;
        }
        if (!rows[slot].isThere()) {
            return HAS_NOTHING;
        }
        return witness.listen(rows[slot], street.days) ? 0 : NO_SUCH;
    }

    private int actOnLate(int kind, int clock, int day) {
        if (!isClock(clock) || !isDay(day)) {
            return NO_LATE;
        }
        if (now.acts >= ACTS_MOST) {
            return NOT_NOW;
        }
        int before = street.lates[day][clock];
        act(kind, clock, day);
        return before;
    }

    private void act(int kind, int clock, int day) {
        now.addAct(kind, clock, day);
        street.settle(now);
    }

    private int slowestDrawn(int seed, int day) {
        sleeper.begin(seed);
        for (int d = 0; d <= day; d++) {
            sleeper.drawDay(street.lates[d], street.alive[d], now.odds);
        }
        return Street.lastOf(sleeper.lates, street.alive[day]);
    }

    private int rowsThere() {
        int there = 0;
        for (int slot = 0; slot < SLOTS; slot++) {
            if (rows[slot].isThere()) {
                there++;
            }
        }
        return there;
    }

    /** A town as told, and the acts done since; no lines: there is no town. */
    private static final class Town {
        int lines;
        int days;
        int home;
        int odds;
        int clocks;
        int trades;
        int waiting;
        int acts;
        final int[] place = new int[CLOCKS_MOST];
        final int[] late = new int[CLOCKS_MOST];
        final int[] loses = new int[CLOCKS_MOST];
        final int[] rent = new int[CLOCKS_MOST];
        final int[] dead = new int[CLOCKS_MOST];
        final int[] actKind = new int[ACTS_MOST];
        final int[] actClock = new int[ACTS_MOST];
        final int[] actDay = new int[ACTS_MOST];

        void clear() {
            lines = 0;
            days = 0;
            home = 0;
            odds = 0;
            clocks = 0;
            trades = 0;
            waiting = 0;
            acts = 0;
        }

        void copyFrom(Town other) {
            lines = other.lines;
            days = other.days;
            home = other.home;
            odds = other.odds;
            clocks = other.clocks;
            trades = other.trades;
            waiting = other.waiting;
            acts = other.acts;
            System.arraycopy(other.place, 0, place, 0, CLOCKS_MOST);
            System.arraycopy(other.late, 0, late, 0, CLOCKS_MOST);
            System.arraycopy(other.loses, 0, loses, 0, CLOCKS_MOST);
            System.arraycopy(other.rent, 0, rent, 0, CLOCKS_MOST);
            System.arraycopy(other.dead, 0, dead, 0, CLOCKS_MOST);
            System.arraycopy(other.actKind, 0, actKind, 0, ACTS_MOST);
            System.arraycopy(other.actClock, 0, actClock, 0, ACTS_MOST);
            System.arraycopy(other.actDay, 0, actDay, 0, ACTS_MOST);
        }

        void addAct(int kind, int clock, int day) {
            if (acts < ACTS_MOST) {
                actKind[acts] = kind;
                actClock[acts] = clock;
                actDay[acts] = day;
                acts++;
            }
        }

        int kindIf(int i, int clock, int day) {
            return actClock[i] == clock && actDay[i] == day ? actKind[i] : NONE;
        }

        static int waitOf(int noon, int waiting) {
            int minutes = noon == NEVER ? MINUTE_MOST : noon;
            return minutes > 0 ? minutes * waiting : 0;
        }
    }

    /** The tape, and the reading of it, token by token, up to the first fault. */
    private static final class Teller {
        private static final int END = 0;
        private static final int SIGN = 1;
        private static final int WORD = 2;
        private static final int NUMBER = 3;
        private static final int NO_TOKEN = 4;
        private static final int CANT_STAND = 1;
        private static final int OUT_OF_BOUNDS = 2;
        private static final int TOO_MANY = 3;
        // Above every bound, and low enough to take one digit more.
        private static final int HUGE = 100000;

        final byte[] tape = new byte[TAPE_MOST];
        int length;
        int fault;
        int faultPlace = NONE;
        private int start;
        private int next;
        private int kind;
        private int value;

        void take(int number) {
            for (int shift = 24; shift >= 0 && length < TAPE_MOST; shift -= 8) {
                tape[length] = (byte) (number >> shift);
                length++;
            }
        }

        boolean tell(Town town) {
            town.clear();
            fault = 0;
            faultPlace = NONE;
            next = 0;
            step();
            for (int i = 0; i <= TAPE_MOST && kind != END && fault == 0; i++) {
                readLine(town);
            }
            return fault == 0;
        }

        private void readLine(Town town) {
            if (town.lines == 0) {
                readTown(town);
            } else if (isWord("clock")) {
                readClock(town);
            } else if (isWord("trade")) {
                readTrade(town);
            } else {
                blame(CANT_STAND);
            }
            if (kind != SIGN) {
                blame(CANT_STAND);
            }
            step();
            town.lines++;
        }

        private void readTown(Town town) {
            expect("town");
            expect("days");
            town.days = numeral(1, DAYS_MOST);
            expect("home");
            town.home = numeral(0, PLACES - 1);
            expect("odds");
            town.odds = numeral(0, TENTHS);
        }

        private void readClock(Town town) {
            int clock = town.clocks;
            if (clock >= CLOCKS_MOST) {
                blame(TOO_MANY);
                return;
            }
            expect("clock");
            expect("at");
            town.place[clock] = numeral(0, PLACES - 1);
            town.late[clock] = either("late", "early") * numeral(0, LATE_MOST);
            town.loses[clock] = either("loses", "gains") * numeral(0, LOSES_MOST);
            expect("rent");
            town.rent[clock] = numeral(0, RENT_MOST);
            town.dead[clock] = 0;
            if (isWord("dead")) {
                town.dead[clock] = 1;
                step();
            }
            town.clocks++;
        }

        private void readTrade(Town town) {
            if (town.trades >= TRADES_MOST) {
                blame(TOO_MANY);
                return;
            }
            expect("trade");
            expect("waits");
            town.waiting += numeral(0, 99);
            town.trades++;
        }

        // Tokens come as they stand, so the first blame is the first by its place.
        private void blame(int what) {
            if (fault == 0) {
                fault = what;
                faultPlace = start;
            }
        }

        private void expect(String word) {
            if (!isWord(word)) {
                blame(CANT_STAND);
            }
            step();
        }

        private int either(String above, String below) {
            int sense = isWord(below) ? -1 : 1;
            if (sense == 1 && !isWord(above)) {
                blame(CANT_STAND);
            }
            step();
            return sense;
        }

        private int numeral(int least, int most) {
            if (kind != NUMBER) {
                blame(CANT_STAND);
            } else if (value < least || value > most) {
                blame(OUT_OF_BOUNDS);
            }
            int told = value;
            step();
            return told;
        }

        private boolean isWord(String word) {
            if (kind != WORD || next - start != word.length()) {
                return false;
            }
            for (int i = 0; i < word.length(); i++) {
                if (tape[start + i] != word.charAt(i)) {
                    return false;
                }
            }
            return true;
        }

        private void step() {
            while (next < length && (tape[next] == 32 || tape[next] == 10)) {
                next++;
            }
            start = next;
            if (next >= length) {
                kind = END;
            } else if (isLetter(tape[next])) {
                kind = WORD;
                while (next < length && isLetter(tape[next])) {
                    next++;
                }
            } else if (isDigit(tape[next])) {
                kind = NUMBER;
                value = 0;
                while (next < length && isDigit(tape[next])) {
                    value = Math.min(HUGE, 10 * value + tape[next] - '0');
                    next++;
                }
            } else {
                kind = tape[next] == ';' ? SIGN : NO_TOKEN;
                next++;
            }
        }

        private static boolean isLetter(int sign) {
            return sign >= 'a' && sign <= 'z';
        }

        private static boolean isDigit(int sign) {
            return sign >= '0' && sign <= '9';
        }
    }

    /** When each clock strikes on each day, and which count, acts as now. */
    private static final class Street {
        int days;
        int clocks;
        final int[][] lates = new int[DAYS_MOST][CLOCKS_MOST];
        final int[] alive = new int[DAYS_MOST];

        void settle(Town town) {
            days = town.days;
            clocks = town.clocks;
            for (int day = 0; day < DAYS_MOST; day++) {
                alive[day] = 0;
            }
            for (int clock = 0; clock < clocks; clock++) {
                fillLates(town, clock, NONE, lates, 0);
                fillAlive(town, clock);
            }
        }

        // The table's rows from base on are the days. A further mending, if there is a day of it, is
        // done behind that day's other acts: what was ahead of it tells nothing of what comes.
        static void fillLates(Town town, int clock, int mendDay, int[][] table, int base) {
            int from = Math.max(0, mendDay);
            int late = mendDay == NONE ? town.late[clock] : 0;
            int loses = town.loses[clock];
            boolean stopped = false;
            for (int day = from; day < town.days; day++) {
                late += day > from ? loses : 0;
                int acts = day == mendDay ? 0 : town.acts;
                for (int i = 0; i < acts; i++) {
                    int kind = town.kindIf(i, clock, day);
                    if (kind == MENDED) {
                        late = 0;
                        loses = town.loses[clock];
                        stopped = false;
                    } else if (kind == OILED) {
                        loses = 0;
                    } else if (kind == STOPPED) {
                        stopped = true;
                    }
                }
                table[base + day][clock] = stopped ? NEVER : late;
            }
        }

        private void fillAlive(Town town, int clock) {
            boolean dead = town.dead[clock] == 1;
            for (int day = 0; day < days; day++) {
                for (int i = 0; i < town.acts; i++) {
                    int kind = town.kindIf(i, clock, day);
                    dead = kind == BURIED || dead && kind != REVIVED;
                }
                if (!dead) {
                    alive[day] |= 1 << clock;
                }
            }
        }

        static boolean has(int bits, int clock) {
            return (bits >> clock & 1) == 1;
        }

        boolean isAlive(int clock, int day) {
            return has(alive[day], clock);
        }

        boolean strikes(int clock, int day) {
            return isAlive(clock, day) && lates[day][clock] != NEVER;
        }

        static int lastOf(int[] minutes, int bits) {
            int last = NONE;
            for (int clock = 0; clock < CLOCKS_MOST; clock++) {
                boolean asked = (bits >> clock & 1) == 1;
                if (asked && (last == NONE || minutes[clock] > minutes[last])) {
                    last = clock;
                }
            }
            return last;
        }

        // A clock that does not strike has the greatest minute of all, NEVER.
        static int noonOf(int[] minutes, int bits) {
            int last = lastOf(minutes, bits);
            return last == NONE ? 0 : minutes[last];
        }

        int ranked(int day, int rank) {
            for (int clock = 0; clock < CLOCKS_MOST; clock++) {
                if (isAlive(clock, day) && rankOf(clock, day) == rank) {
                    return clock;
                }
            }
            return NONE;
        }

        private int rankOf(int clock, int day) {
            int ahead = 0;
            for (int other = 0; other < CLOCKS_MOST; other++) {
                int later = lates[day][clock] - lates[day][other];
                if (isAlive(other, day) && (later > 0 || later == 0 && other < clock)) {
                    ahead++;
                }
            }
            return ahead;
        }

        int lateOfRank(int day, int rank) {
            int clock = ranked(day, rank);
            return clock == NONE ? NEVER : lates[day][clock];
        }

        int together(int clock, int day) {
            int bits = 0;
            for (int other = 0; other < CLOCKS_MOST; other++) {
                if (isAlive(other, day) && lates[day][other] == lates[day][clock]) {
                    bits |= 1 << other;
                }
            }
            return bits;
        }
    }

    /** The best few mendings: by wait, or by how many noons are above a limit. */
    private static final class Mender {
        int least;
        int few;
        int first;
        private int days;
        private int clocks;
        private int waiting;
        private int limit;
        private int head;
        private final int[] alive = new int[DAYS_MOST];
        // Seven rows for each day of a mending: how its clock goes on from it.
        private final int[][] fresh = new int[DAYS_MOST * DAYS_MOST][CLOCKS_MOST];
        // Seven rows for each number of mendings that are done so far.
        private final int[][] stages = new int[DAYS_MOST * MENDS_MOST][CLOCKS_MOST];
        // Of the stage that waits for its last mending: who is last, when, when all but he, and
        // who is last alone on some day from this one on.
        private final int[] last = new int[DAYS_MOST];
        private final int[] noon = new int[DAYS_MOST];
        private final int[] noonButLast = new int[DAYS_MOST];
        private final int[] lastFrom = new int[DAYS_MOST];

        void search(Town town, Street street, int n, int above) {
            prepare(town, street);
            limit = above;
            least = 0;
            for (int day = 0; day < days; day++) {
                least += toll(0, day);
            }
            few = 0;
            first = NONE;
            for (int mendings = 1; mendings <= n && least > 0; mendings++) {
                seek(0, mendings, 0, 0);
            }
        }

        private void prepare(Town town, Street street) {
            days = street.days;
            clocks = street.clocks;
            waiting = town.waiting;
            for (int day = 0; day < days; day++) {
                alive[day] = street.alive[day];
                System.arraycopy(street.lates[day], 0, stages[day], 0, CLOCKS_MOST);
                for (int clock = 0; clock < clocks; clock++) {
                    Street.fillLates(town, clock, day, fresh, day * DAYS_MOST);
                }
            }
        }

        // Pairs rise, so the days ahead of a pair's day stay as they are: if they alone cost
        // as much as the least, no pair from there on helps.
        private void seek(int depth, int left, int from, int ahead) {
            if (left <= 1 || depth + 1 >= MENDS_MOST) {
                seekLast(depth, from, ahead);
                return;
            }
            int spent = ahead;
            for (int day = from / 10; day < days && spent < least; day++) {
                for (int clock = 0; clock < clocks; clock++) {
                    int pair = 10 * day + clock;
                    if (pair >= from && apply(depth, day, clock)) {
                        head = depth == 0 ? pair : head;
                        seek(depth + 1, left - 1, pair + 1, spent);
                    }
                }
                spent += toll(depth, day);
            }
        }

        // Only who is last alone makes noon earlier, so no other one is worth the last mending.
        private void seekLast(int depth, int from, int ahead) {
            look(depth, from / 10);
            int spent = ahead;
            for (int day = from / 10; day < days && spent < least; day++) {
                for (int clock = 0; clock < clocks; clock++) {
                    int pair = 10 * day + clock;
                    if (pair >= from && Street.has(lastFrom[day], clock)) {
                        head = depth == 0 ? pair : head;
                        keep(depth + 1, spent + tollBy(day, clock));
                    }
                }
                spent += tollOf(noon[day]);
            }
        }

        // Rows come as they rise, and short ones first, so only a better one takes their place.
        private void keep(int mendings, int whole) {
            if (whole < least) {
                least = whole;
                few = mendings;
                first = head;
            }
        }

        // A mending that changes nothing can be left out: a shorter row does the same.
        private boolean apply(int depth, int from, int clock) {
            boolean changes = false;
            for (int day = from; day < days; day++) {
                int[] before = stages[depth * DAYS_MOST + day];
                int[] behind = stages[(depth + 1) * DAYS_MOST + day];
                System.arraycopy(before, 0, behind, 0, CLOCKS_MOST);
                behind[clock] = fresh[from * DAYS_MOST + day][clock];
                changes = changes || Street.has(alive[day], clock) && behind[clock] != before[clock];
            }
            return changes;
        }

        // A noon below 0 costs no more than one of 0, which stands where no other counts.
        private void look(int depth, int from) {
            int alone = 0;
            for (int day = days - 1; day >= from; day--) {
                int[] lates = stages[depth * DAYS_MOST + day];
                last[day] = Street.lastOf(lates, alive[day]);
                noon[day] = last[day] == NONE ? 0 : lates[last[day]];
                int others = last[day] == NONE ? 0 : alive[day] & ~(1 << last[day]);
                noonButLast[day] = Street.noonOf(lates, others);
                if (last[day] != NONE && noonButLast[day] < noon[day]) {
                    alone |= 1 << last[day];
                }
                lastFrom[day] = alone;
            }
        }

        // What the days from a mending's on cost by it.
        private int tollBy(int mendDay, int clock) {
            int whole = 0;
            for (int day = mendDay; day < days; day++) {
                int minute = noon[day];
                if (Street.has(alive[day], clock)) {
                    int others = last[day] == clock ? noonButLast[day] : minute;
                    minute = Math.max(others, fresh[mendDay * DAYS_MOST + day][clock]);
                }
                whole += tollOf(minute);
            }
            return whole;
        }

        private int toll(int depth, int day) {
            return tollOf(Street.noonOf(stages[depth * DAYS_MOST + day], alive[day]));
        }

        private int tollOf(int minute) {
            if (limit == NONE) {
                return Town.waitOf(minute, waiting);
            }
            return minute > limit ? 1 : 0;
        }
    }

    /** The bellman's soonest way, and his way by a row that is given. */
    private static final class Bellman {
        int soonest;
        int size;
        final int[] soonestWay = new int[CLOCKS_MOST];
        private final int[] way = new int[CLOCKS_MOST];
        private final int[] places = new int[CLOCKS_MOST];
        private final int[] lates = new int[CLOCKS_MOST];

        void begin(Town town, int[] minutes) {
            System.arraycopy(town.place, 0, places, 0, CLOCKS_MOST);
            System.arraycopy(minutes, 0, lates, 0, CLOCKS_MOST);
        }

        void search(int home, int bits) {
            soonest = NEVER;
            size = 0;
            seek(0, home, 0, bits);
        }

        // Ways come as rows rise, so only a sooner one takes the place of the first.
        private void seek(int depth, int place, int minute, int left) {
            if (left == 0 || depth >= CLOCKS_MOST) {
                keep(depth, minute);
                return;
            }
            for (int clock = 0; clock < CLOCKS_MOST; clock++) {
                if (Street.has(left, clock)) {
                    int heard = hearAt(clock, place, minute);
                    if (heard < soonest) {
                        way[depth] = clock;
                        seek(depth + 1, places[clock], heard, left & ~(1 << clock));
                    }
                }
            }
        }

        private void keep(int depth, int minute) {
            if (minute < soonest) {
                soonest = minute;
                size = depth;
                System.arraycopy(way, 0, soonestWay, 0, CLOCKS_MOST);
            }
        }

        private int hearAt(int clock, int place, int minute) {
            return Math.max(minute + Math.abs(places[clock] - place), lates[clock]);
        }

        static boolean isWay(Row row, int bits) {
            int left = bits;
            for (int i = 0; i < row.size; i++) {
                long clock = row.numbers[i];
                if (clock < 0 || clock >= CLOCKS_MOST || !Street.has(left, (int) clock)) {
                    return false;
                }
                left &= ~(1 << (int) clock);
            }
            return left == 0;
        }

        int walk(int home, Row row) {
            int minute = 0;
            int place = home;
            for (int i = 0; i < row.size; i++) {
                long clock = row.numbers[i];
                if (clock >= 0 && clock < CLOCKS_MOST) {
                    minute = hearAt((int) clock, place, minute);
                    place = places[(int) clock];
                }
            }
            return Math.min(minute, NEVER);
        }
    }

    /** Two owners' weights, and the pairs of them at which neither wants another. */
    private static final class Race {
        int rests;
        int first;
        int latest;
        private final int[] lates = new int[CLOCKS_MOST];
        private final int[] slowest = new int[WEIGHTS * WEIGHTS];
        private final int[] noons = new int[WEIGHTS * WEIGHTS];

        void run(Town town, int[] minutes, int bits, int clock, int other) {
            System.arraycopy(minutes, 0, lates, 0, CLOCKS_MOST);
            for (int pair = 0; pair < WEIGHTS * WEIGHTS; pair++) {
                lates[clock] = minutes[clock] + pair / WEIGHTS;
                lates[other] = minutes[other] + pair % WEIGHTS;
                slowest[pair] = Street.lastOf(lates, bits);
                noons[pair] = Street.noonOf(lates, bits);
            }
            rests = 0;
            first = NONE;
            latest = NEVER;
            for (int pair = 0; pair < WEIGHTS * WEIGHTS; pair++) {
                int weight = pair / WEIGHTS;
                int against = pair % WEIGHTS;
                if (isBest(town, clock, weight, against, WEIGHTS, 1)
                        && isBest(town, other, against, weight, 1, WEIGHTS)) {
                    note(pair, 10 * weight + against);
                }
            }
        }

        private void note(int pair, int told) {
            if (rests == 0) {
                first = told;
                latest = noons[pair];
            }
            latest = Math.max(latest, noons[pair]);
            rests++;
        }

        // The pair's number is the owner's weight times its step and the other's times its own.
        private boolean isBest(Town town, int clock, int weight, int against, int step, int otherStep) {
            int has = gain(town, clock, weight, slowest[weight * step + against * otherStep]);
            for (int another = 0; another < WEIGHTS; another++) {
                if (gain(town, clock, another, slowest[another * step + against * otherStep]) > has) {
                    return false;
                }
            }
            return true;
        }

        private static int gain(Town town, int clock, int weight, int last) {
            int rent = last == clock ? town.rent[clock] : 0;
            return rent - WEIGHT_COST * weight;
        }
    }

    /** What noons that were seen tell of clocks away, and of one under a floor. */
    private static final class Witness {
        int sets;
        int fewestSet;
        int inAll;
        int pairs;
        int firstPair;
        private int seen;
        private final int[] seenDay = new int[ROW_MOST / 2];
        private final int[] seenNoon = new int[ROW_MOST / 2];
        private final int[] setsWith = new int[CLOCKS_MOST];

        boolean listen(Row row, int days) {
            seen = 0;
            if (row.size % 2 != 0) {
                return false;
            }
            for (int i = 0; i + 1 < row.size; i += 2) {
                long day = row.numbers[i];
                long noon = row.numbers[i + 1];
                if (day < 0 || day >= days || noon < -SEEN_MOST || noon > SEEN_MOST) {
                    return false;
                }
                seenDay[seen] = (int) day;
                seenNoon[seen] = (int) noon;
                seen++;
            }
            return true;
        }

        void searchAway(Street street) {
            sets = 0;
            fewestSet = NONE;
            inAll = NONE;
            for (int clock = 0; clock < CLOCKS_MOST; clock++) {
                setsWith[clock] = 0;
            }
            int some = 0;
            for (int day = 0; day < street.days; day++) {
                some |= street.alive[day];
            }
            for (int set = 0; set < 1 << CLOCKS_MOST; set++) {
                if ((set & ~some) == 0 && isSeenWithout(street, set)) {
                    noteSet(set);
                }
            }
        }

        private boolean isSeenWithout(Street street, int set) {
            for (int i = 0; i < seen; i++) {
                int day = seenDay[i];
                if (Street.noonOf(street.lates[day], street.alive[day] & ~set) != seenNoon[i]) {
                    return false;
                }
            }
            return true;
        }

        private void noteSet(int set) {
            if (sets == 0 || Integer.bitCount(set) < Integer.bitCount(fewestSet)) {
                fewestSet = set;
            }
            inAll = sets == 0 ? set : inAll & set;
            for (int clock = 0; clock < CLOCKS_MOST; clock++) {
                setsWith[clock] += set >> clock & 1;
            }
            sets++;
        }

        int bestQuestion() {
            int best = NONE;
            int least = sets;
            for (int clock = 0; clock < CLOCKS_MOST; clock++) {
                int left = Math.max(setsWith[clock], sets - setsWith[clock]);
                if (left < least) {
                    least = left;
                    best = clock;
                }
            }
            return best;
        }

        void searchUnder(Street street) {
            pairs = 0;
            firstPair = NONE;
            for (int late = 0; late <= LATE_MOST; late++) {
                for (int loses = 0; loses <= LOSES_MOST; loses++) {
                    if (isSeenWith(street, late, loses)) {
                        firstPair = pairs == 0 ? 10 * late + loses : firstPair;
                        pairs++;
                    }
                }
            }
        }

        private boolean isSeenWith(Street street, int late, int loses) {
            for (int i = 0; i < seen; i++) {
                int day = seenDay[i];
                int noon = late + day * loses;
                if (street.alive[day] != 0) {
                    noon = Math.max(noon, Street.noonOf(street.lates[day], street.alive[day]));
                }
                if (noon != seenNoon[i]) {
                    return false;
                }
            }
            return true;
        }
    }

    /** Clocks that oversleep, by chance and as drawn. */
    private static final class Sleeper {
        int above;
        int below;
        final int[] lates = new int[CLOCKS_MOST];
        private long state;

        void weigh(int[] minutes, int bits, int odds, int m) {
            above = 1;
            below = 1;
            for (int clock = 0; clock < CLOCKS_MOST; clock++) {
                if (Street.has(bits, clock)) {
                    above *= tenthsBy(minutes[clock], odds, m);
                    below *= TENTHS;
                }
            }
        }

        private static int tenthsBy(int late, int odds, int m) {
            if (late > m) {
                return 0;
            }
            return late + SLEEP > m ? TENTHS - odds : TENTHS;
        }

        void begin(int seed) {
            state = seed;
        }

        boolean drawDay(int[] minutes, int bits, int odds) {
            boolean someSlept = false;
            for (int clock = 0; clock < CLOCKS_MOST; clock++) {
                lates[clock] = minutes[clock];
                if (Street.has(bits, clock) && minutes[clock] != NEVER && draw() < odds) {
                    lates[clock] += SLEEP;
                    someSlept = true;
                }
            }
            return someSlept;
        }

        private int draw() {
            state = (1103515245L * state + 12345L) % 2147483648L;
            return (int) (state / 65536L % TENTHS);
        }
    }

    /** A slot's row of numbers of one width; a size below 0: the slot has nothing. */
    private static final class Row {
        int size = NONE;
        int width;
        final long[] numbers = new long[ROW_MOST];

        boolean isThere() {
            return size >= 0;
        }

        void begin(int newWidth, int n) {
            width = newWidth;
            size = n;
            for (int i = 0; i < ROW_MOST; i++) {
                numbers[i] = 0;
            }
        }

        boolean holds(int from, int n) {
            return from >= 0 && n >= 0 && from <= size - n;
        }

        static long cut(long v, int width) {
            switch (width) {
                case 0: return (byte) v;
                case 1: return (short) v;
                case 2: return (int) v;
                default: return v;
            }
        }
    }
}
