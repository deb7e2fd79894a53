import java.util.ArrayList;
import java.util.Arrays;
import java.util.Collections;
import java.util.List;
import java.util.TreeSet;
import java.util.function.IntPredicate;

/**
 * The document's promises once more, written as slowly and as near to its words as can be, with
 * lists and full searches, so that the class can be asked the same and compared.
 */
final class Naive {
    static final int NONE = -1;
    static final int NEVER = 10000;

    record Clock(int place, int late, int loses, int rent, boolean dead) { }

    record Act(char kind, int clock, int day) { }

    record Pair(int day, int clock) { }

    static final class Town {
        int lines;
        int days;
        int home;
        int odds;
        List<Clock> clocks = new ArrayList<>();
        List<Integer> trades = new ArrayList<>();
        List<Act> acts = new ArrayList<>();

        Town copy() {
            Town t = new Town();
            t.lines = lines;
            t.days = days;
            t.home = home;
            t.odds = odds;
            t.clocks = new ArrayList<>(clocks);
            t.trades = new ArrayList<>(trades);
            t.acts = new ArrayList<>(acts);
            return t;
        }
    }

    private static final class Fault extends RuntimeException {
        private static final long serialVersionUID = 1L;
        final int what;
        final int place;

        Fault(int what, int place) {
            this.what = what;
            this.place = place;
        }
    }

    private String tape = "";
    private Town t = new Town();
    private int fault = 0;
    private int place = NONE;
    private final Town[] images = new Town[3];
    private final long[][] rows = new long[4][];
    private final int[] widths = new int[4];

    // ---- tape ----

    public int feed(int a, int b, int c, int d, int e) {
        if (tape.length() + 20 > 800) {
            return NONE;
        }
        StringBuilder s = new StringBuilder(tape);
        for (int w : new int[] {a, b, c, d, e}) {
            for (int shift : new int[] {24, 16, 8, 0}) {
                s.append((char) (w >>> shift & 255));
            }
        }
        tape = s.toString();
        return tape.length();
    }

    public int end(int n) {
        if (n < 0 || n > tape.length()) {
            return NONE;
        }
        tape = tape.substring(0, n);
        return n;
    }

    private record Token(String text, int place) { }

    private List<Token> tokens;

    private Token next() {
        return tokens.get(0);
    }

    private String word() {
        Token k = tokens.remove(0);
        if (!k.text.matches("[a-z]+")) {
            throw new Fault(1, k.place);
        }
        return k.text;
    }

    private void expect(String want) {
        Token k = tokens.remove(0);
        if (!k.text.equals(want)) {
            throw new Fault(1, k.place);
        }
    }

    private int number(int least, int most) {
        Token k = tokens.remove(0);
        if (!k.text.matches("[0-9]+")) {
            throw new Fault(1, k.place);
        }
        java.math.BigInteger n = new java.math.BigInteger(k.text);
        if (n.compareTo(java.math.BigInteger.valueOf(least)) < 0 || n.compareTo(java.math.BigInteger.valueOf(most)) > 0) {
            throw new Fault(2, k.place);
        }
        return n.intValue();
    }

    private void tokenize() {
        tokens = new ArrayList<>();
        java.util.regex.Matcher m = java.util.regex.Pattern.compile("[a-z]+|[0-9]+|;|[^ \n]", java.util.regex.Pattern.DOTALL).matcher(tape);
        while (m.find()) {
            tokens.add(new Token(m.group(), m.start()));
        }
        tokens.add(new Token("", tape.length()));
    }

    private int sign(String plus, String minus) {
        int at = next().place;
        String w = word();
        if (w.equals(plus)) {
            return 1;
        }
        if (w.equals(minus)) {
            return -1;
        }
        throw new Fault(1, at);
    }

    private Town parse() {
        tokenize();
        Town n = new Town();
        while (!next().text.isEmpty()) {
            int at = next().place;
            String w = word();
            if (w.equals("town") && n.lines == 0) {
                expect("days");
                n.days = number(1, 7);
                expect("home");
                n.home = number(0, 9);
                expect("odds");
                n.odds = number(0, 10);
            } else if (w.equals("clock") && n.lines > 0) {
                if (n.clocks.size() == 6) {
                    throw new Fault(3, at);
                }
                expect("at");
                int p = number(0, 9);
                int s = sign("late", "early");
                int late = s * number(0, 60);
                s = sign("loses", "gains");
                int loses = s * number(0, 9);
                expect("rent");
                int rent = number(0, 999);
                boolean dead = next().text.equals("dead");
                if (dead) {
                    word();
                }
                n.clocks.add(new Clock(p, late, loses, rent, dead));
            } else if (w.equals("trade") && n.lines > 0) {
                if (n.trades.size() == 5) {
                    throw new Fault(3, at);
                }
                expect("waits");
                n.trades.add(number(0, 99));
            } else {
                throw new Fault(1, at);
            }
            expect(";");
            n.lines++;
        }
        return n;
    }

    public int town() {
        try {
            Town n = parse();
            fault = 0;
            place = NONE;
            t = n;
            tape = "";
            return t.lines;
        } catch (Fault f) {
            fault = f.what;
            place = f.place;
            return -4;
        }
    }

    public int fault(int what) {
        return what == 0 ? fault : what == 1 ? place : NONE;
    }

    // ---- terms ----

    private boolean none() {
        return t.lines == 0;
    }

    private boolean noDay(int d) {
        return d < 0 || d >= t.days;
    }

    private boolean noClock(int c) {
        return c < 0 || c >= t.clocks.size();
    }

    /** LATE with further mendings; NEVER if it does not strike. */
    private int lateOf(int c, int day, List<Pair> further) {
        Clock k = t.clocks.get(c);
        int late = k.late;
        boolean oiled = false;
        boolean stopped = false;
        for (int d = 0; d <= day; d++) {
            if (d > 0 && !oiled) {
                late += k.loses;
            }
            List<Act> today = new ArrayList<>();
            for (Act a : t.acts) {
                if (a.day == d && a.clock == c) {
                    today.add(a);
                }
            }
            if (further.contains(new Pair(d, c))) {
                today.add(new Act('m', c, d));
            }
            for (Act a : today) {
                switch (a.kind) {
                    case 'm' -> {
                        late = 0;
                        oiled = false;
                        stopped = false;
                    }
                    case 'o' -> oiled = true;
                    case 's' -> stopped = true;
                    default -> { }
                }
            }
        }
        return stopped ? NEVER : late;
    }

    private boolean deadOn(int c, int day) {
        boolean dead = t.clocks.get(c).dead;
        for (int d = 0; d <= day; d++) {
            for (Act a : t.acts) {
                if (a.clock == c && a.day == d && (a.kind == 'd' || a.kind == 'a')) {
                    dead = a.kind == 'd';
                }
            }
        }
        return dead;
    }

    /** Minutes of a day's clocks that count: an index is a clock's, null where it does not count. */
    private Integer[] minutes(int day, List<Pair> further, int gone) {
        Integer[] m = new Integer[t.clocks.size()];
        for (int c = 0; c < m.length; c++) {
            if (!deadOn(c, day) && (gone >> c & 1) == 0) {
                m[c] = lateOf(c, day, further);
            }
        }
        return m;
    }

    private Integer[] minutes(int day) {
        return minutes(day, List.of(), 0);
    }

    private static int noonOf(Integer[] m) {
        List<Integer> l = present(m);
        return l.isEmpty() ? 0 : Collections.max(l);
    }

    private static List<Integer> present(Integer[] m) {
        List<Integer> l = new ArrayList<>();
        for (Integer i : m) {
            if (i != null) {
                l.add(i);
            }
        }
        return l;
    }

    private static int slowOf(Integer[] m) {
        for (int c = 0; c < m.length; c++) {
            if (m[c] != null && m[c].equals(Collections.max(present(m)))) {
                return c;
            }
        }
        return NONE;
    }

    private int wait(int noon) {
        int all = t.trades.stream().mapToInt(i -> i).sum();
        return (noon == NEVER ? 600 : noon < 0 ? 0 : noon) * all;
    }

    private int waitOfAll(List<Pair> further, int gone) {
        int w = 0;
        for (int d = 0; d < t.days; d++) {
            w += wait(noonOf(minutes(d, further, gone)));
        }
        return w;
    }

    private int bits(int n, IntPredicate p) {
        int b = 0;
        for (int i = 0; i < n; i++) {
            if (p.test(i)) {
                b |= 1 << i;
            }
        }
        return b;
    }

    // ---- reading ----

    public int clock(int c, int what) {
        if (noClock(c) || what < 0 || what > 4) {
            return -1000;
        }
        Clock k = t.clocks.get(c);
        return new int[] {k.place, k.late, k.loses, k.rent, k.dead ? 1 : 0}[what];
    }

    public int late(int c, int d) {
        return noClock(c) || noDay(d) ? -1000 : lateOf(c, d, List.of());
    }

    public int noon(int d) {
        return noDay(d) ? -1000 : noonOf(minutes(d));
    }

    public int counts(int d) {
        return noDay(d) ? -2 : bits(t.clocks.size(), c -> !deadOn(c, d));
    }

    public int slowest(int d) {
        return noDay(d) ? -2 : slowOf(minutes(d));
    }

    private List<Integer> sorted(int d) {
        Integer[] m = minutes(d);
        List<Integer> l = new ArrayList<>();
        for (int c = 0; c < m.length; c++) {
            if (m[c] != null) {
                l.add(c);
            }
        }
        l.sort((x, y) -> m[x].equals(m[y]) ? x - y : m[x] - m[y]);
        return l;
    }

    public int order(int d, int i) {
        if (noDay(d)) {
            return -2;
        }
        List<Integer> l = sorted(d);
        return i < 0 || i >= l.size() ? NONE : l.get(i);
    }

    public int struck(int d, int minute) {
        if (noDay(d) || minute < -1000 || minute > 1000) {
            return -2;
        }
        Integer[] m = minutes(d);
        return bits(m.length, c -> m[c] != null && m[c] != NEVER && m[c] <= minute);
    }

    public int gap(int d) {
        if (noDay(d)) {
            return -2;
        }
        Integer[] m = minutes(d);
        if (present(m).isEmpty()) {
            return 0;
        }
        int noon = noonOf(m);
        m[slowOf(m)] = null;
        int then = noonOf(m);
        return noon == NEVER ? then == NEVER ? 0 : NEVER : noon - then;
    }

    public int costs(int d) {
        return noDay(d) ? -2 : wait(noonOf(minutes(d)));
    }

    public int waits() {
        return none() ? -2 : waitOfAll(List.of(), 0);
    }

    public int worst() {
        if (none()) {
            return -2;
        }
        int most = 0;
        for (int d = 0; d < t.days; d++) {
            most = Math.max(most, costs(d));
        }
        for (int d = 0; d < t.days && most > 0; d++) {
            if (costs(d) == most) {
                return d;
            }
        }
        return NONE;
    }

    public int reign(int c) {
        return noClock(c) ? -2 : bits(t.days, d -> slowest(d) == c);
    }

    public int rents(int c) {
        return noClock(c) ? -2 : Integer.bitCount(reign(c)) * t.clocks.get(c).rent;
    }

    public int without(int c) {
        return noClock(c) ? -2 : waitOfAll(List.of(), 1 << c);
    }

    public int best() {
        if (none()) {
            return -2;
        }
        int b = NONE;
        for (int c = 0; c < t.clocks.size(); c++) {
            if (without(c) < waits() && (b == NONE || without(c) < without(b))) {
                b = c;
            }
        }
        return b;
    }

    public int deals() {
        return none() ? -2 : bits(t.clocks.size(), c -> waits() - without(c) > rents(c));
    }

    public int price(int c) {
        return noClock(c) ? -1000000 : waits() - without(c) - rents(c);
    }

    public int chorus(int d) {
        if (noDay(d)) {
            return -2;
        }
        List<Integer> l = present(minutes(d));
        l.removeIf(m -> m == NEVER);
        int most = 0;
        for (Integer m : l) {
            most = Math.max(most, Collections.frequency(l, m));
        }
        return most;
    }

    public int tolls(int d) {
        if (noDay(d)) {
            return -2;
        }
        TreeSet<Integer> s = new TreeSet<>(present(minutes(d)));
        s.remove(NEVER);
        return s.size();
    }

    public int register(int d) {
        return noDay(d) ? -2 : bits(t.clocks.size(), c -> deadOn(c, d));
    }

    public int heir(int d) {
        if (noDay(d)) {
            return -2;
        }
        Integer[] m = minutes(d);
        if (present(m).isEmpty()) {
            return NONE;
        }
        m[slowOf(m)] = null;
        return slowOf(m);
    }

    private boolean badM(int m) {
        return none() || m < 0 || m > 600;
    }

    public int watch(int m) {
        return badM(m) ? -2 : bits(t.days, d -> noon(d) <= m);
    }

    public int alarm(int m) {
        return badM(m) ? -2 : first(bits(t.days, d -> noon(d) > m));
    }

    private static int first(int bits) {
        return bits == 0 ? NONE : Integer.numberOfTrailingZeros(bits);
    }

    public int meet(int a, int b) {
        return noClock(a) || noClock(b) ? -2 : first(bits(t.days, d -> late(a, d) == late(b, d)));
    }

    public int passes(int a, int b) {
        return noClock(a) || noClock(b) ? -2 : bits(t.days, d -> late(a, d) > late(b, d));
    }

    public int slack(int c, int d) {
        if (noClock(c) || noDay(d)) {
            return -2;
        }
        return noon(d) == NEVER ? NEVER : Math.max(0, noon(d) - late(c, d));
    }

    public int spread(int d) {
        if (noDay(d)) {
            return -2;
        }
        List<Integer> l = present(minutes(d));
        if (l.isEmpty()) {
            return 0;
        }
        return l.contains(NEVER) ? NEVER : Collections.max(l) - Collections.min(l);
    }

    public int steady() {
        if (none()) {
            return -2;
        }
        int best = NONE;
        int width = 0;
        for (int c = 0; c < t.clocks.size(); c++) {
            List<Integer> l = new ArrayList<>();
            for (int d = 0; d < t.days; d++) {
                l.add(late(c, d));
            }
            int w = Collections.max(l) - Collections.min(l);
            if (best == NONE || w < width) {
                best = c;
                width = w;
            }
        }
        return best;
    }

    private static int told(long above, long below, int what) {
        long g = java.math.BigInteger.valueOf(above).gcd(java.math.BigInteger.valueOf(below)).longValue();
        return (int) (what == 0 ? above / g : below / g);
    }

    public int mean(int c, int what) {
        if (noClock(c) || what < 0 || what > 1) {
            return -1000;
        }
        int sum = 0;
        int n = 0;
        for (int d = 0; d < t.days; d++) {
            if (late(c, d) != NEVER) {
                sum += late(c, d);
                n++;
            }
        }
        return n == 0 ? what == 0 ? NEVER : 1 : told(sum, n, what);
    }

    // ---- searches ----

    private int burySet(int m) {
        int best = NONE;
        for (int s = 0; s < 1 << t.clocks.size(); s++) {
            boolean all = true;
            for (int d = 0; d < t.days; d++) {
                all &= noonOf(minutes(d, List.of(), s)) <= m;
            }
            if (all && (best == NONE || Integer.bitCount(s) < Integer.bitCount(best))) {
                best = s;
            }
        }
        return best;
    }

    public int bury(int m) {
        return badM(m) ? -2 : Integer.bitCount(burySet(m));
    }

    public int buries(int m) {
        return badM(m) ? -2 : burySet(m);
    }

    /** All rows of so many pairs, as they rise. */
    private List<List<Pair>> mendRows(int n) {
        List<List<Pair>> all = new ArrayList<>();
        if (n == 0) {
            all.add(List.of());
            return all;
        }
        for (List<Pair> head : mendRows(n - 1)) {
            for (int d = 0; d < t.days; d++) {
                for (int c = 0; c < t.clocks.size(); c++) {
                    Pair last = head.isEmpty() ? new Pair(-1, 0) : head.get(head.size() - 1);
                    if (d > last.day || d == last.day && c > last.clock) {
                        List<Pair> row = new ArrayList<>(head);
                        row.add(new Pair(d, c));
                        all.add(row);
                    }
                }
            }
        }
        return all;
    }

    private List<Pair> bestMends(int n) {
        List<Pair> best = null;
        int least = 0;
        for (int k = 0; k <= n; k++) {
            for (List<Pair> row : mendRows(k)) {
                int w = waitOfAll(row, 0);
                if (best == null || w < least) {
                    best = row;
                    least = w;
                }
            }
        }
        return best;
    }

    public int mends(int n) {
        return none() || n < 0 || n > 3 ? -2 : waitOfAll(bestMends(n), 0);
    }

    public int mended(int n) {
        if (none() || n < 0 || n > 3) {
            return -2;
        }
        List<Pair> row = bestMends(n);
        return row.isEmpty() ? NONE : 10 * row.get(0).day + row.get(0).clock;
    }

    public int fewest(int m) {
        if (badM(m)) {
            return -2;
        }
        for (int k = 0; k <= 3; k++) {
            for (List<Pair> row : mendRows(k)) {
                boolean all = true;
                for (int d = 0; d < t.days && all; d++) {
                    all = noonOf(minutes(d, row, 0)) <= m;
                }
                if (all) {
                    return k;
                }
            }
        }
        return NONE;
    }

    private List<List<Integer>> ways(List<Integer> clocks) {
        List<List<Integer>> all = new ArrayList<>();
        if (clocks.isEmpty()) {
            all.add(List.of());
        }
        for (Integer c : clocks) {
            List<Integer> rest = new ArrayList<>(clocks);
            rest.remove(c);
            for (List<Integer> tail : ways(rest)) {
                List<Integer> way = new ArrayList<>(List.of(c));
                way.addAll(tail);
                all.add(way);
            }
        }
        return all;
    }

    /** Minute by minute. */
    private int walk(List<Integer> way, int day, int home) {
        int at = home;
        int minute = 0;
        for (int c : way) {
            if (lateOf(c, day, List.of()) == NEVER) {
                return NEVER;
            }
            while (at != t.clocks.get(c).place || minute < lateOf(c, day, List.of())) {
                at += Integer.signum(t.clocks.get(c).place - at);
                minute++;
            }
        }
        return minute;
    }

    private List<Integer> counting(int d) {
        List<Integer> l = new ArrayList<>();
        for (int c = 0; c < t.clocks.size(); c++) {
            if (!deadOn(c, d)) {
                l.add(c);
            }
        }
        return l;
    }

    private List<Integer> bestWay(int d, int home) {
        List<Integer> best = null;
        int least = NEVER;
        for (List<Integer> way : ways(counting(d))) {
            int m = walk(way, d, home);
            if (m < least) {
                best = way;
                least = m;
            }
        }
        return best;
    }

    private int roundFrom(int d, int home) {
        List<Integer> way = bestWay(d, home);
        return way == null ? NEVER : walk(way, d, home);
    }

    public int round(int d) {
        return noDay(d) ? -2 : roundFrom(d, t.home);
    }

    public int rounds(int d, int i) {
        if (noDay(d)) {
            return -2;
        }
        List<Integer> way = bestWay(d, t.home);
        return way == null || i < 0 || i >= way.size() ? NONE : way.get(i);
    }

    public int goes(int slot, int d) {
        if (noDay(d) || slot < 0 || slot > 3) {
            return -2;
        }
        if (rows[slot] == null) {
            return -6;
        }
        List<Integer> way = new ArrayList<>();
        for (long v : rows[slot]) {
            if (v < 0 || v > 5) {
                return -2;
            }
            way.add((int) v);
        }
        List<Integer> s = new ArrayList<>(way);
        Collections.sort(s);
        return s.equals(counting(d)) ? walk(way, d, t.home) : -2;
    }

    public int lodge(int d) {
        if (noDay(d)) {
            return -2;
        }
        int[] at = new int[10];
        for (int p = 0; p < 10; p++) {
            at[p] = roundFrom(d, p);
        }
        int least = Arrays.stream(at).min().getAsInt();
        for (int p = 0; ; p++) {
            if (at[p] == least) {
                return p;
            }
        }
    }

    public int quorum(int d, int k) {
        if (noDay(d) || k < 1 || k > 6) {
            return -2;
        }
        List<Integer> l = present(minutes(d));
        Collections.sort(l);
        return l.size() < k ? NEVER : l.get(k - 1);
    }

    public int law(int m) {
        if (badM(m)) {
            return -2;
        }
        int greatest = 0;
        for (int k = 1; k <= 6; k++) {
            boolean all = true;
            for (int d = 0; d < t.days; d++) {
                all &= quorum(d, k) <= m;
            }
            if (all) {
                greatest = k;
            }
        }
        return greatest;
    }

    public int middle(int d) {
        if (noDay(d)) {
            return -1000;
        }
        List<Integer> l = present(minutes(d));
        Collections.sort(l);
        return l.isEmpty() ? NEVER : l.get(l.size() % 2 == 1 ? l.size() / 2 : l.size() / 2 - 1);
    }

    private int has(int c, int other, int d, int weight, int against) {
        Integer[] m = minutes(d);
        m[c] += weight;
        m[other] += against;
        return (slowOf(m) == c ? t.clocks.get(c).rent : 0) - 10 * weight;
    }

    private List<int[]> resting(int c, int other, int d) {
        if (noClock(c) || noClock(other) || noDay(d) || c == other) {
            return null;
        }
        Integer[] m = minutes(d);
        if (m[c] == null || m[other] == null || m[c] == NEVER || m[other] == NEVER) {
            return null;
        }
        List<int[]> l = new ArrayList<>();
        for (int v = 0; v <= 5; v++) {
            for (int w = 0; w <= 5; w++) {
                boolean rest = true;
                for (int x = 0; x <= 5; x++) {
                    rest &= has(c, other, d, x, w) <= has(c, other, d, v, w);
                    rest &= has(other, c, d, x, v) <= has(other, c, d, w, v);
                }
                if (rest) {
                    l.add(new int[] {v, w});
                }
            }
        }
        return l;
    }

    public int rests(int c, int other, int d) {
        List<int[]> l = resting(c, other, d);
        return l == null ? -2 : l.size();
    }

    public int rest(int c, int other, int d) {
        List<int[]> l = resting(c, other, d);
        return l == null ? -2 : l.isEmpty() ? NONE : 10 * l.get(0)[0] + l.get(0)[1];
    }

    public int race(int c, int other, int d) {
        List<int[]> l = resting(c, other, d);
        if (l == null) {
            return -2;
        }
        if (l.isEmpty()) {
            return NEVER;
        }
        int most = Integer.MIN_VALUE;
        for (int[] p : l) {
            Integer[] m = minutes(d);
            m[c] += p[0];
            m[other] += p[1];
            most = Math.max(most, noonOf(m));
        }
        return most;
    }

    // ---- noons seen ----

    private int seen(int slot) {
        if (none() || slot < 0 || slot > 3) {
            return -2;
        }
        long[] r = rows[slot];
        if (r == null) {
            return -6;
        }
        if (r.length % 2 == 1) {
            return -2;
        }
        for (int i = 0; i < r.length; i += 2) {
            if (r[i] < 0 || r[i] >= t.days || r[i + 1] < -1000 || r[i + 1] > 1000) {
                return -2;
            }
        }
        return 0;
    }

    private List<Integer> awaySets(int slot) {
        int some = 0;
        for (int d = 0; d < t.days; d++) {
            some |= counts(d);
        }
        List<Integer> l = new ArrayList<>();
        for (int s = 0; s < 64; s++) {
            boolean so = (s | some) == some;
            for (int i = 0; i < rows[slot].length; i += 2) {
                so &= noonOf(minutes((int) rows[slot][i], List.of(), s)) == rows[slot][i + 1];
            }
            if (so) {
                l.add(s);
            }
        }
        return l;
    }

    public int away(int slot) {
        return seen(slot) != 0 ? seen(slot) : awaySets(slot).size();
    }

    public int gone(int slot) {
        if (seen(slot) != 0) {
            return seen(slot);
        }
        List<Integer> l = awaySets(slot);
        l.sort((x, y) -> Integer.bitCount(x) != Integer.bitCount(y) ? Integer.bitCount(x) - Integer.bitCount(y) : x - y);
        return l.isEmpty() ? NONE : l.get(0);
    }

    public int surely(int slot) {
        if (seen(slot) != 0) {
            return seen(slot);
        }
        List<Integer> l = awaySets(slot);
        return l.isEmpty() ? NONE : bits(6, c -> l.stream().allMatch(s -> (s >> c & 1) == 1));
    }

    public int ask(int slot) {
        if (seen(slot) != 0) {
            return seen(slot);
        }
        List<Integer> l = awaySets(slot);
        int best = NONE;
        long least = l.size();
        for (int c = 0; c < t.clocks.size(); c++) {
            int k = c;
            long in = l.stream().filter(s -> (s >> k & 1) == 1).count();
            long left = Math.max(in, l.size() - in);
            if (left < least) {
                best = c;
                least = left;
            }
        }
        return best;
    }

    private List<Integer> underPairs(int slot) {
        List<Integer> l = new ArrayList<>();
        int[] days = new int[t.days];
        boolean[] any = new boolean[t.days];
        for (int d = 0; d < t.days; d++) {
            days[d] = noon(d);
            any[d] = counts(d) != 0;
        }
        for (int late = 0; late <= 60; late++) {
            for (int loses = 0; loses <= 9; loses++) {
                boolean so = true;
                for (int i = 0; i < rows[slot].length; i += 2) {
                    int d = (int) rows[slot][i];
                    int more = late + loses * d;
                    so &= (any[d] ? Math.max(days[d], more) : more) == rows[slot][i + 1];
                }
                if (so) {
                    l.add(10 * late + loses);
                }
            }
        }
        return l;
    }

    public int under(int slot) {
        return seen(slot) != 0 ? seen(slot) : underPairs(slot).size();
    }

    public int floor(int slot) {
        if (seen(slot) != 0) {
            return seen(slot);
        }
        List<Integer> l = underPairs(slot);
        return l.isEmpty() ? NONE : l.get(0);
    }

    // ---- oversleeping: case by case ----

    /** All cases of a day: the minutes, and how many of ten to the strikers' number have them. */
    private record Case(Integer[] minutes, long weight) { }

    private List<Case> cases(int d) {
        List<Case> l = new ArrayList<>();
        l.add(new Case(minutes(d), 1));
        Integer[] m = minutes(d);
        for (int c = 0; c < m.length; c++) {
            if (m[c] != null && m[c] != NEVER) {
                List<Case> more = new ArrayList<>();
                for (Case k : l) {
                    Integer[] late = k.minutes.clone();
                    late[c] += 30;
                    more.add(new Case(late, k.weight * t.odds));
                    more.add(new Case(k.minutes, k.weight * (10 - t.odds)));
                }
                l = more;
            }
        }
        return l;
    }

    private long[] chanceOf(int d, int m) {
        long above = 0;
        long below = 0;
        for (Case k : cases(d)) {
            below += k.weight;
            if (noonOf(k.minutes) <= m) {
                above += k.weight;
            }
        }
        return new long[] {above, below};
    }

    public int chance(int d, int m, int what) {
        if (noDay(d) || m < 0 || m > 600 || what < 0 || what > 1) {
            return -2;
        }
        long[] f = chanceOf(d, m);
        return told(f[0], f[1], what);
    }

    public int sure(int d, int p) {
        if (noDay(d) || p < 0 || p > 100) {
            return -2;
        }
        List<Case> l = cases(d);
        for (int m = 0; m <= 600; m++) {
            long above = 0;
            long below = 0;
            for (Case k : l) {
                below += k.weight;
                above += noonOf(k.minutes) <= m ? k.weight : 0;
            }
            if (above * 100 >= p * below) {
                return m;
            }
        }
        return NONE;
    }

    public int likely(int d) {
        if (noDay(d)) {
            return -2;
        }
        long[] by = new long[7];
        for (Case k : cases(d)) {
            by[slowOf(k.minutes) + 1] += k.weight;
        }
        int best = 0;
        for (int i = 0; i < 7; i++) {
            if (by[i] > by[best]) {
                best = i;
            }
        }
        return best - 1;
    }

    // ---- acts ----

    private int act(char kind, int c, int d) {
        if (noClock(c) || noDay(d)) {
            return -1000;
        }
        if (t.acts.size() >= 40) {
            return -5;
        }
        int was = late(c, d);
        t.acts.add(new Act(kind, c, d));
        return was;
    }

    public int mend(int c, int d) {
        return act('m', c, d);
    }

    public int oil(int c, int d) {
        return act('o', c, d);
    }

    public int stop(int c, int d) {
        return act('s', c, d);
    }

    public int enter(int c, int d, int on) {
        if (noClock(c) || noDay(d) || on < 0 || on > 1) {
            return -2;
        }
        if (t.acts.size() >= 40) {
            return -5;
        }
        int was = deadOn(c, d) ? 1 : 0;
        t.acts.add(new Act(on == 1 ? 'd' : 'a', c, d));
        return was;
    }

    public int undo() {
        if (none()) {
            return -2;
        }
        if (t.acts.isEmpty()) {
            return -5;
        }
        t.acts.remove(t.acts.size() - 1);
        return t.acts.size();
    }

    public int anew() {
        if (none()) {
            return -2;
        }
        int n = t.acts.size();
        t.acts.clear();
        return n;
    }

    private List<Integer[]> draws(int seed) {
        java.math.BigInteger x = java.math.BigInteger.valueOf(seed);
        List<Integer[]> l = new ArrayList<>();
        for (int d = 0; d < t.days; d++) {
            Integer[] m = minutes(d);
            for (int c = 0; c < m.length; c++) {
                if (m[c] != null && m[c] != NEVER) {
                    x = x.multiply(java.math.BigInteger.valueOf(1103515245)).add(java.math.BigInteger.valueOf(12345)).mod(java.math.BigInteger.ONE.shiftLeft(31));
                    if (x.shiftRight(16).intValue() % 10 < t.odds) {
                        m[c] += 30;
                    }
                }
            }
            l.add(m);
        }
        return l;
    }

    public int drawn(int seed, int what) {
        if (none() || seed < 0 || seed > 2000000000 || what < 0 || what > 1) {
            return -2;
        }
        List<Integer[]> l = draws(seed);
        if (what == 0) {
            return l.stream().mapToInt(m -> wait(noonOf(m))).sum();
        }
        return bits(t.days, d -> !Arrays.equals(l.get(d), minutes(d)));
    }

    public int luck(int seed, int n, int c, int d) {
        if (seed < 0 || seed > 2000000000 || n < 1 || n > 20 || noClock(c) || noDay(d)) {
            return -2;
        }
        int times = 0;
        for (int s = seed; s < seed + n; s++) {
            if (slowOf(draws(s).get(d)) == c) {
                times++;
            }
        }
        return times;
    }

    public int rate(int c, int n) {
        if (noClock(c) || n < 0 || n > 999) {
            return -2;
        }
        if (!t.acts.isEmpty()) {
            return -5;
        }
        Clock k = t.clocks.get(c);
        t.clocks.set(c, new Clock(k.place, k.late, k.loses, n, k.dead));
        return k.rent;
    }

    public int count(int what) {
        int have = 0;
        for (long[] r : rows) {
            have += r == null ? 0 : 1;
        }
        int[] all = {t.days, t.home, t.odds, t.clocks.size(), t.trades.size(), t.acts.size(), t.lines, tape.length(), have};
        return what < 0 || what > 8 ? NONE : all[what];
    }

    public int image(int k) {
        if (k < 0 || k > 2) {
            return -2;
        }
        images[k] = t.copy();
        return 0;
    }

    public int back(int k) {
        if (k < 0 || k > 2) {
            return -2;
        }
        if (images[k] == null) {
            return -6;
        }
        t = images[k].copy();
        return 0;
    }

    public int row(int slot, int width, int n) {
        if (slot < 0 || slot > 3 || width < 0 || width > 3 || n > 60) {
            return -2;
        }
        if (n < 0) {
            return -3;
        }
        rows[slot] = new long[n];
        widths[slot] = width;
        return 0;
    }

    public int write(int slot, int i, long v) {
        if (slot < 0 || slot > 3) {
            return -2;
        }
        if (rows[slot] == null) {
            return -6;
        }
        if (i < 0 || i >= rows[slot].length) {
            return -7;
        }
        int shift = 64 - (8 << widths[slot]);
        rows[slot][i] = v << shift >> shift;
        return 0;
    }

    public int paste(int slot, int i, int to, int k, int n) {
        if (slot < 0 || slot > 3 || to < 0 || to > 3) {
            return -2;
        }
        if (rows[slot] == null || rows[to] == null) {
            return -6;
        }
        if (widths[slot] != widths[to]) {
            return -8;
        }
        if (i < 0 || k < 0 || n < 0 || (long) i + n > rows[slot].length || (long) k + n > rows[to].length) {
            return -7;
        }
        long[] were = Arrays.copyOfRange(rows[slot], i, i + n);
        for (int j = 0; j < n; j++) {
            rows[to][k + j] = were[j];
        }
        return 0;
    }
}
