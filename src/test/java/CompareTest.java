import java.lang.reflect.Method;
import java.util.ArrayList;
import java.util.Collections;
import java.util.HashMap;
import java.util.HashSet;
import java.util.List;
import java.util.Map;
import java.util.Random;
import java.util.Set;

/** Drawn runs of calls, from fixed seeds, asked of the class and of Naive: each answer must be the same. */
public final class CompareTest {
    // A letter for each argument: what it is, so that most of those drawn are good and some are not.
    private static final String[] CALLS = {
        "end n", "fault w", "clock cv", "late cd", "noon d", "counts d", "slowest d", "order di", "struck dq",
        "gap d", "costs d", "waits", "worst", "reign c", "rents c", "without c", "best", "deals", "price c",
        "chorus d", "tolls d", "register d", "heir d", "watch m", "alarm m", "meet cc", "passes cc", "slack cd",
        "spread d", "steady", "mean cw", "bury m", "buries m", "mends M", "mended M", "fewest m", "round d",
        "rounds di", "goes sd", "lodge d", "quorum dk", "law m", "middle d", "rests ccd", "rest ccd", "race ccd",
        "away s", "gone s", "surely s", "ask s", "under s", "floor s", "chance dmw", "sure dp", "likely d",
        "mend cd", "oil cd", "stop cd", "enter cdw", "undo", "anew", "drawn Sw", "luck SLcd", "rate cr",
        "count C", "image I", "back I", "row sWN", "write sxV", "paste sxsxx"};

    private final Random random;
    private final SlowNoon real = new SlowNoon();
    private final Naive naive = new Naive();
    private final StringBuilder story = new StringBuilder();
    private int wrong = 0;
    private int mendCalls = 0;
    static final Map<String, Set<Integer>> answers = new HashMap<>();
    static long asked = 0;

    private CompareTest(long seed) {
        random = new Random(seed);
    }

    private static Method method(Class<?> type, String name) {
        for (Method m : type.getDeclaredMethods()) {
            if (m.getName().equals(name) && java.lang.reflect.Modifier.isPublic(m.getModifiers())) {
                m.setAccessible(true);
                return m;
            }
        }
        throw new IllegalStateException(name);
    }

    private static final Map<String, Method[]> METHODS = new HashMap<>();

    private int call(String name, Object... args) {
        Method[] both = METHODS.computeIfAbsent(name, n -> new Method[] {method(SlowNoon.class, n), method(Naive.class, n)});
        try {
            int got = (Integer) both[0].invoke(real, args);
            int want = (Integer) both[1].invoke(naive, args);
            story.append(name).append(java.util.Arrays.toString(args)).append(" -> ").append(got).append('\n');
            answers.computeIfAbsent(name, n -> new HashSet<>()).add(got);
            asked++;
            if (got != want && wrong++ == 0) {
                System.out.println(story + "naive: " + want);
            }
            return got;
        } catch (ReflectiveOperationException e) {
            wrong++;
            System.out.println(story + name + java.util.Arrays.toString(args) + ": " + e.getCause());
            return 0;
        }
    }

    private int any(int least, int most) {
        return least + random.nextInt(most - least + 1);
    }

    private boolean one(int in) {
        return random.nextInt(in) == 0;
    }

    private static final int[] EXTREMES = {Integer.MIN_VALUE, Integer.MIN_VALUE + 1, -60, -2, 31, 32, 33, 64, 255, 10000, Integer.MAX_VALUE - 1, Integer.MAX_VALUE};

    private Object argument(char kind) {
        if (kind != 'V' && one(60)) {
            return EXTREMES[any(0, EXTREMES.length - 1)];
        }
        int clocks = Math.max(1, real.count(3));
        int days = Math.max(1, real.count(0));
        switch (kind) {
            case 'c': return one(20) ? any(-1, 7) : any(0, clocks - 1);
            case 'd': return one(20) ? any(-1, 8) : any(0, days - 1);
            case 'w': return one(10) ? any(-1, 3) : any(0, 1);
            case 'v': return any(-1, 5);
            case 'n': return one(4) ? any(-1, 5) : any(0, Math.max(1, real.count(7)));
            case 'i': return any(-1, 6);
            case 'q': return one(10) ? any(-1002, 1002) : any(-120, 120);
            case 'm': return one(8) ? any(-1, 602) : one(20) ? 600 : one(20) ? 601 : any(0, 100);
            case 'M': return any(-1, 4);
            case 'k': return any(0, 7);
            case 's': return one(20) ? any(-1, 5) : any(0, 3);
            case 'p': return one(5) ? any(-1, 101) : any(0, 100);
            case 'S': return one(10) ? any(-1, 0) : one(10) ? any(1999999999, 2000000001) : any(0, 2000000000);
            case 'L': return any(0, 21);
            case 'r': return any(-1, 1000);
            case 'C': return any(-1, 9);
            case 'I': return any(-1, 3);
            case 'W': return any(-1, 4);
            case 'N': return one(10) ? any(-1, 61) : any(0, 8);
            case 'x': return any(-1, 8);
            default: return random.nextLong() >> any(0, 63);
        }
    }

    private void drawnCall(String spec) {
        String[] parts = spec.split(" ");
        String kinds = parts.length > 1 ? parts[1] : "";
        boolean dear = parts[0].startsWith("mend") && kinds.equals("M") || parts[0].equals("fewest");
        if (dear && real.count(0) * real.count(3) > 20 && mendCalls++ > 3) {
            return;
        }
        Object[] args = new Object[kinds.length()];
        for (int i = 0; i < args.length; i++) {
            args[i] = argument(kinds.charAt(i));
        }
        call(parts[0], args);
    }

    private String blank() {
        return one(6) ? "  " : one(6) ? "\n" : " ";
    }

    private String number(int n) {
        return one(10) ? "00" + n : "" + n;
    }

    private String line(boolean calm) {
        if (one(4)) {
            return "trade waits " + number(any(0, 99));
        }
        return "clock at " + number(any(0, 9)) + blank() + (one(3) ? "early " : "late ") + number(calm ? any(0, 9) : any(0, 60))
            + blank() + (one(3) ? "gains" : "loses") + blank() + number(any(0, calm ? 2 : 9)) + " rent " + number(one(2) ? any(0, 60) : any(0, 999))
            + (one(6) ? " dead" : "");
    }

    private String text() {
        StringBuilder s = new StringBuilder("town days " + number(any(1, one(3) ? 7 : 4)) + " home " + number(any(0, 9)) + " odds " + any(0, 10) + ";");
        boolean calm = one(2);
        int lines = one(3) ? any(0, 3) : any(3, 9);
        for (int i = 0; i < lines; i++) {
            s.append(one(3) ? blank() : "").append(line(calm)).append(one(5) ? " ;" : ";");
        }
        return s.toString();
    }

    private String spoil(String text) {
        StringBuilder s = new StringBuilder(text);
        int at = any(0, s.length() - 1);
        String signs = "a z;0 9\nT\u00e9\u0000{`/:";
        switch (any(0, 6)) {
            case 0: s.deleteCharAt(at); break;
            case 1: s.insert(at, signs.charAt(any(0, signs.length() - 1))); break;
            case 2: s.setCharAt(at, signs.charAt(any(0, signs.length() - 1))); break;
            case 3: s.setLength(at); break;
            case 4: s.append(text); break;
            case 5: s.insert(0, line(false) + ";"); break;
            default: s.append("trade waits 1;".repeat(any(1, 6))).append((line(true) + ";").repeat(any(1, 7))); break;
        }
        return s.length() > 780 ? s.substring(0, 780) : s.toString();
    }

    private void tell(String text) {
        call("end", 0);
        byte[] b = Due.bytes(text);
        for (int i = 0; i < b.length; i += 20) {
            call("feed", Due.word(b, i), Due.word(b, i + 4), Due.word(b, i + 8), Due.word(b, i + 12), Due.word(b, i + 16));
        }
        if (!one(30)) {
            call("end", b.length);
        }
        call("town");
        call("fault", 0);
        call("fault", 1);
    }

    /** A row of noons that some clocks away would make, most of the time. */
    private void see() {
        int slot = any(0, 3);
        int days = real.count(0);
        int n = one(8) ? 0 : any(1, 3);
        call("row", slot, any(1, 3), 2 * n);
        for (int i = 0; i < n && days > 0; i++) {
            int day = any(0, days - 1);
            int noon = one(3) ? real.noon(day) : real.late(any(0, Math.max(0, real.count(3) - 1)), day);
            call("write", slot, 2 * i, (long) day);
            call("write", slot, 2 * i + 1, (long) (one(10) ? any(-30, 90) : noon == Naive.NEVER ? 0 : noon));
        }
        for (String name : new String[] {"away", "gone", "surely", "ask", "under", "floor"}) {
            call(name, slot);
        }
    }

    private void wander() {
        int slot = any(0, 3);
        if (real.count(0) == 0) {
            return;
        }
        int day = any(0, real.count(0) - 1);
        List<Integer> way = new ArrayList<>();
        for (int c = 0; c < 6; c++) {
            if ((real.counts(day) >> c & 1) == 1) {
                way.add(c);
            }
        }
        Collections.shuffle(way, random);
        call("row", slot, any(0, 3), way.size());
        for (int i = 0; i < way.size(); i++) {
            call("write", slot, i, (long) way.get(i));
        }
        call("goes", slot, day);
    }

    /** Small towns in which several mendings are worth as much, so that the least row must be told from the others. */
    private void mendings() {
        int days = any(2, 5);
        StringBuilder text = new StringBuilder("town days " + days + " home 0 odds 0;trade waits 1;");
        int clocks = any(1, 3);
        for (int c = 0; c < clocks; c++) {
            text.append(line(one(2)).replaceAll("trade.*", "clock at 0 late 3 loses 0 rent 0")).append(';');
        }
        tell(text.toString());
        for (int acts = any(0, 5); acts > 0; acts--) {
            drawnCall(new String[] {"mend cd", "oil cd", "stop cd", "enter cdw"}[any(0, 3)]);
        }
        for (int n = 0; n <= 3; n++) {
            call("mends", n);
            call("mended", n);
        }
        for (int m : new int[] {0, 1, 3, 9, any(0, 60)}) {
            call("fewest", m);
        }
    }

    private void run() {
        int calls = 0;
        if (!one(10)) {
            tell(text());
        }
        while (calls++ < 150) {
            if (one(50)) {
                tell(one(2) ? text() : spoil(text()));
            } else if (one(12)) {
                see();
            } else if (one(20)) {
                wander();
            } else if (one(60)) {
                for (int i = 0; i < 42; i++) {
                    drawnCall(new String[] {"mend cd", "oil cd", "stop cd", "enter cdw"}[any(0, 3)]);
                }
            } else {
                drawnCall(CALLS[random.nextInt(CALLS.length)]);
            }
        }
    }

    public static void main(String[] args) {
        int runs = args.length > 0 ? Integer.parseInt(args[0]) : 400;
        int wrong = 0;
        for (int seed = 1; seed <= runs && wrong == 0; seed++) {
            CompareTest test = new CompareTest(seed);
            test.run();
            for (int i = 0; i < 5; i++) {
                test.mendings();
            }
            wrong += test.wrong;
        }
        boolean all = wrong == 0;
        for (String spec : CALLS) {
            String name = spec.split(" ")[0];
            if (all && answers.getOrDefault(name, Set.of()).size() < 2) {
                wrong++;
                System.out.println(name + " had fewer than two unlike answers");
            }
        }
        System.out.println("CompareTest: " + asked + " answers, " + wrong + " not as due");
        if (wrong != 0) {
            System.exit(1);
        }
    }
}
