import java.io.IOException;
import java.util.Arrays;

/** The document's sentences on noons that were seen and on oversleeping: term VII, promises 50 to 58, 65 and 66. */
public final class EdgeSeenTest {
    private static final Edges E = new Edges("EdgeSeenTest", "VII", "50-58", "65-66");

    private static String clocks(String head, int... lates) {
        StringBuilder s = new StringBuilder(head);
        for (int late : lates) {
            s.append("clock at 0 ").append(late < 0 ? "early " : "late ").append(Math.abs(late)).append(" loses 0 rent 10;");
        }
        return s.toString();
    }

    private static String two(int odds) {
        return "town days 2 home 0 odds " + odds + ";";
    }

    /** A town of two days, and the noons that were seen in slot 0. */
    private static SlowNoon seen(int[] lates, long... row) {
        SlowNoon x = Due.told(clocks(two(5), lates));
        Due.fill(x, 0, 3, row);
        return x;
    }

    private static int[] lates(int... lates) {
        return lates;
    }

    private static void away() {
        E.says(50, "AWAY: a SLOT's row, two numbers each: a DAY, NOON then: sets of CLOCKS (of those that COUNT on some DAY; none, too)"
            + " that, if they did not COUNT on any DAY, would make it so: how many.");
        E.of(seen(lates(4, 7, 9), 0, 7), "away(0) 2; enter(2, 0, 1) 0; away(0) 2; enter(2, 1, 0) 1; away(0) 4");
        E.of(seen(lates(4, 7, 9), 0, 9), "away(0) 4");
        E.of(seen(lates(4, 7, 9), 0, 4), "away(0) 1");
        E.of(seen(lates(4, 7, 9), 0, 0), "away(0) 1");
        E.of(seen(lates(4, 7, 9), 0, 5), "away(0) 0");
        E.of(seen(lates(4, 7, 9), 0, 7, 1, 7), "away(0) 2");
        E.of(seen(lates(4, 7, 9), 0, 7, 1, 9), "away(0) 0");
        E.of(seen(lates(4, 7, 9), 0, 7, 0, 7), "away(0) 2");
        E.of(seen(lates(4, 7, 9)), "away(0) 8; enter(0, 1, 1) 0; away(0) 8; enter(0, 0, 1) 0; away(0) 4");
        E.of(seen(lates(1, 2, 3, 4, 5, 6)), "away(0) 64");
        E.of(seen(lates()), "away(0) 1");
        E.of(seen(lates(), 1, 0), "away(0) 1; gone(0) 0; surely(0) 0; ask(0) NONE");
        E.of(seen(lates(), 1, 1), "away(0) 0");
        // Stopped, it must be away; a clock that is dead on all days is in no set.
        E.of(seen(lates(4, 7, 9), 0, 7), "stop(2, 0) 9; away(0) 2; stop(0, 0) 4; away(0) 1; enter(0, 0, 1) 0; away(0) 1");
        // Dead on day 0 alone it may be away or not, as far as day 0 can tell.
        E.of(seen(lates(4, 7, 9), 0, 9), "enter(0, 0, 1) 0; away(0) 2; enter(0, 1, 0) 1; away(0) 4");
        E.of(seen(lates(-5, -8), 0, -8), "away(0) 1; gone(0) 1");
        E.of(seen(lates(-5, -8), 0, -5), "away(0) 2; gone(0) 0");
        E.of(seen(lates(4, 7), 1, 1000), "away(0) 0");
        E.of(seen(lates(4, 7), 1, -1000), "away(0) 0");
        long[] sixty = new long[60];
        Arrays.fill(sixty, 0);
        for (int i = 1; i < 60; i += 2) {
            sixty[i] = 7;
        }
        E.of(seen(lates(4, 7), sixty), "away(0) 2; write(0, 59, 4) 0; away(0) 0");
        E.says(50, "-2: there is no such SLOT, no TOWN, a number is none such (NOON -1,000 .. 1,000; asked last), not two each;");
        refused("away");
        E.says(50, "-6: it has nothing.");
        nothing("away");
        E.says(51, "The least of these of fewest CLOCKS, as bits.");
        E.of(seen(lates(4, 7, 9), 0, 7), "gone(0) 4");
        E.of(seen(lates(9, 7, 9), 0, 7), "gone(0) 5");
        E.of(seen(lates(4, 7, 9), 0, 0), "gone(0) 7");
        E.of(seen(lates(4, 7, 9), 0, 9), "gone(0) 0");
        E.of(seen(lates(4, 7, 9)), "gone(0) 0");
        E.of(seen(lates(1, 2, 3, 4, 5, 6), 0, 5), "gone(0) 32");
        E.says(51, "NONE: there is none;");
        E.of(seen(lates(4, 7, 9), 0, 5), "gone(0) NONE");
        E.of(seen(lates(), 0, 5), "gone(0) NONE");
        E.says(51, "-2, -6 likewise.");
        refused("gone");
        nothing("gone");
        E.says(52, "CLOCKS that are in all of them, as bits.");
        E.of(seen(lates(4, 7, 9), 0, 7), "surely(0) 4");
        E.of(seen(lates(4, 7, 9), 0, 4), "surely(0) 6");
        E.of(seen(lates(5, 5), 0, 5), "away(0) 3; surely(0) 0");
        E.of(seen(lates(4, 7, 9)), "surely(0) 0");
        E.says(52, "NONE, -2, -6 likewise.");
        E.of(seen(lates(4, 7, 9), 0, 5), "surely(0) NONE");
        refused("surely");
        nothing("surely");
        E.says(53, "ASK: the CLOCK of which to know whether it COUNTED leaves fewest of them at worst, if fewer than now, the first of several.");
        E.of(seen(lates(4, 7, 9), 0, 7), "ask(0) 0");
        E.of(seen(lates(7, 4, 9), 0, 7), "ask(0) 1");
        E.of(seen(lates(5, 5), 0, 5), "ask(0) 0");
        // {}, {0}, {1} and with or without clock 2 each: that one leaves 3 of 6, the others 4.
        E.of(seen(lates(5, 5, 1), 0, 5), "away(0) 6; ask(0) 2");
        // What was asked before leaves nothing behind.
        E.of(seen(lates(5, 5, 1), 0, 1), "ask(0) NONE; write(0, 1, 5) 0; ask(0) 2; ask(0) 2");
        E.of(seen(lates(4, 7, 9)), "ask(0) 0; enter(0, 0, 1) 0; ask(0) 1");
        E.says(53, "NONE: none;");
        E.of(seen(lates(4, 7, 9), 0, 4), "away(0) 1; ask(0) NONE");
        E.of(seen(lates(4, 7, 9), 0, 5), "away(0) 0; ask(0) NONE");
        E.of(seen(lates()), "ask(0) NONE");
        E.says(53, "-2, -6 likewise.");
        refused("ask");
        nothing("ask");
    }

    private static void under() {
        E.says(54, "UNDER: pairs of late (0 .. 60) and loses (0 .. 9) of one CLOCK more, under a floor, that would make it so: how many.");
        E.of(seen(lates(), 0, 0), "under(0) 10");
        E.of(seen(lates(), 0, 60), "under(0) 10");
        E.of(seen(lates(), 0, 61), "under(0) 0");
        E.of(seen(lates(), 0, -1), "under(0) 0");
        E.of(seen(lates(), 1, 7), "under(0) 8");
        E.of(seen(lates(), 1, 69), "under(0) 1");
        E.of(seen(lates(), 1, 70), "under(0) 0");
        E.of(seen(lates(), 0, 5, 1, 9), "under(0) 1; write(0, 3, 14) 0; under(0) 1; write(0, 3, 15) 0; under(0) 0; write(0, 3, 4) 0; under(0) 0");
        E.of(seen(lates()), "under(0) 610");
        E.of(seen(lates(4)), "under(0) 610");
        E.of(seen(lates(4), 0, 4), "under(0) 50");
        E.of(seen(lates(4), 0, 3), "under(0) 0; enter(0, 0, 1) 0; under(0) 10");
        E.of(seen(lates(-5), 0, -5), "under(0) 0; write(0, 1, 0) 0; under(0) 10");
        E.of(seen(lates(4), 0, 9), "under(0) 10; stop(0, 0) 4; under(0) 0; enter(0, 0, 1) 0; under(0) 10");
        SlowNoon week = Due.told("town days 7 home 0 odds 0;");
        Due.fill(week, 0, 2, 6, 114);
        E.of(week, "under(0) 1; floor(0) 609");
        E.says(54, "-2, -6 likewise.");
        refused("under");
        nothing("under");
        E.says(55, "The first such pair (late, then loses): 10 times late and loses.");
        E.of(seen(lates(), 0, 0), "floor(0) 0");
        E.of(seen(lates(), 0, 60), "floor(0) 600");
        E.of(seen(lates(), 1, 7), "floor(0) 7");
        E.of(seen(lates(), 1, 12), "floor(0) 39");
        E.of(seen(lates(), 1, 69), "floor(0) 609");
        E.of(seen(lates(), 0, 5, 1, 9), "floor(0) 54");
        E.of(seen(lates(4), 1, 4), "floor(0) 0");
        E.of(seen(lates()), "floor(0) 0");
        E.says(55, "NONE: none;");
        E.of(seen(lates(), 0, 61), "floor(0) NONE");
        E.of(seen(lates(4), 0, 3), "floor(0) NONE; stop(0, 0) 4; floor(0) NONE");
        E.says(55, "-2, -6 likewise.");
        refused("floor");
        nothing("floor");
    }

    private static void refused(String name) {
        E.noSlot(name + "(%)", "-2");
        E.noTown(name + "(0)", "-2");
        E.noTown(name + "(2)", "-2");
        E.noTown(name + "(4)", "-2");
        long[][] bad = {{0}, {0, 7, 1}, {-1, 7}, {2, 7}, {7, 7}, {0, 1001}, {0, -1001}, {0, 10000}, {0, 7, 2, 7}, {0, 7, 1, 1001}, {0, 7, -1, 7},
            {1L << 32, 7}, {0, 7 + (1L << 32)}, {Long.MIN_VALUE, 7}, {0, Long.MAX_VALUE}, {0, Long.MIN_VALUE}, new long[59]};
        for (long[] row : bad) {
            E.of(seen(lates(4, 7, 9), row), name + "(0) -2");
            E.of(seen(lates(), row), name + "(0) -2");
        }
        // Slot 1 has three numbers.
        E.stays(name + "(1) -2", Lead.RICH);
    }

    private static void nothing(String name) {
        E.stays(name + "(2) -6; " + name + "(3) -6", Lead.RICH);
        E.stays(name + "(1) -6; " + name + "(2) -6", Lead.BARE);
        E.stays(name + "(0) -6", Lead.FULL);
    }

    private static void chances() {
        E.says("VII", "On a DAY each CLOCK that COUNTS and strikes oversleeps with odds in ten, by itself: it is 30 minutes LATE more that DAY.");
        for (int odds = 0; odds <= 10; odds++) {
            int above = new int[] {1, 9, 4, 7, 3, 1, 2, 3, 1, 1, 0}[odds];
            int below = new int[] {1, 10, 5, 10, 5, 2, 5, 10, 5, 10, 1}[odds];
            E.of(clocks(two(odds), 5), "chance(0, 5, 0) " + above + "; chance(0, 5, 1) " + below + "; chance(0, 34, 0) " + above
                + "; chance(0, 34, 1) " + below + "; chance(0, 35, 0) 1; chance(0, 35, 1) 1; chance(0, 4, 0) 0; chance(0, 4, 1) 1; late(0, 0) 5; noon(0) 5");
        }
        E.of(clocks(two(5), 5, 9), "chance(0, 9, 1) 4; chance(0, 34, 1) 4; chance(0, 35, 1) 2; chance(0, 39, 1) 1; enter(0, 0, 1) 0; chance(0, 9, 1) 2");
        E.says("VII", "FRACTIONS are told in lowest terms (0 / 1).");
        E.of(clocks(two(4), 5), "chance(0, 5, 0) 3; chance(0, 5, 1) 5; chance(0, 0, 0) 0; chance(0, 0, 1) 1");
        E.of(clocks(two(5), 1, 1, 1, 1, 1, 1), "chance(0, 1, 0) 1; chance(0, 1, 1) 64");
        E.of(clocks(two(3), 1, 1, 1, 1, 1, 1), "chance(0, 1, 0) 117649; chance(0, 1, 1) 1000000; chance(0, 31, 0) 1; chance(0, 31, 1) 1");
        E.of(clocks(two(9), 1, 1, 1, 1, 1, 1), "chance(0, 1, 0) 1; chance(0, 1, 1) 1000000; sure(0, 0) 0; sure(0, 1) 31");
        E.says(56, "ODDS (VII): that NOON is m (0 .. 600) at most on a DAY, above (what 0), below (1).");
        E.of(clocks(two(5), 5), "chance(0, 600, 0) 1; chance(0, 600, 1) 1; chance(0, 0, 0) 0; chance(0, 0, 1) 1; chance(1, 5, 1) 2");
        E.of(clocks(two(5), -30), "chance(0, 0, 0) 1; chance(0, 0, 1) 1");
        E.of(clocks(two(5), -29), "chance(0, 0, 0) 1; chance(0, 0, 1) 2; chance(0, 1, 1) 1");
        E.of(clocks(two(5), 5), "stop(0, 1) 5; chance(1, 600, 0) 0; chance(1, 600, 1) 1; enter(0, 1, 1) 0; chance(1, 0, 0) 1; chance(1, 0, 1) 1");
        E.stays("chance(0, 0, 0) 1; chance(0, 0, 1) 1", Lead.BARE);
        E.says(56, "-2: there are none such.");
        E.noMinute("chance(0, %, 0)", "-2");
        E.stays("chance(0, 0, 2) -2; chance(0, 0, -1) -2; chance(0, 0, MIN) -2; chance(0, 0, MAX) -2", Lead.RICH, Lead.BARE);
        E.noDay("chance(%, 0, 0)", "-2");
        E.says(57, "The least m (0 .. 600) by which that is p (0 .. 100) in a hundred at least.");
        E.of(clocks(two(5), 5), "sure(0, 0) 0; sure(0, 1) 5; sure(0, 50) 5; sure(0, 51) 35; sure(0, 100) 35");
        E.of(clocks(two(10), 5), "sure(0, 1) 35; sure(0, 0) 0");
        E.of(clocks(two(0), 5), "sure(0, 100) 5");
        E.of(clocks(two(5), -40), "sure(0, 100) 0");
        // Three at nine in ten: 72.9 in a hundred.
        E.of(clocks(two(1), 5, 5, 5), "sure(0, 72) 5; sure(0, 73) 35");
        E.of(clocks(two(1), 5, 7), "sure(0, 81) 7; sure(0, 82) 35; sure(0, 90) 35; sure(0, 91) 37; sure(0, 100) 37");
        E.stays("sure(0, 100) 0; sure(1, 0) 0", Lead.BARE);
        E.says(57, "NONE: by none;");
        E.of(clocks(two(5), 5), "stop(0, 0) 5; sure(0, 1) NONE; sure(0, 100) NONE; sure(0, 0) 0");
        E.says(57, "-2: there are none such.");
        E.stays("sure(0, -1) -2; sure(0, 101) -2; sure(0, MIN) -2; sure(0, MAX) -2", Lead.RICH, Lead.BARE);
        E.noDay("sure(%, 0)", "-2");
        E.says(58, "The CLOCK likeliest to be slowest() so on a DAY, the first of several.");
        for (int odds = 0; odds <= 10; odds++) {
            E.of(clocks(two(odds), 5, 9, 7), "likely(0) 1");
            E.of(clocks(two(odds), 9, 9, 9), "likely(0) 0");
            E.of(clocks(two(odds), 0, 50, 9), "likely(1) 1; stop(2, 1) 9; likely(1) 2; stop(0, 1) 0; likely(1) 0; enter(1, 0, 1) 0; likely(0) 2");
        }
        E.says(58, "NONE: none COUNTS;");
        E.stays("likely(0) NONE; likely(1) NONE", Lead.BARE);
        E.of(clocks(two(5), 5), "enter(0, 1, 1) 0; likely(0) 0; likely(1) NONE");
        E.says(58, "-2: there is none such.");
        E.noDay("likely(%)", "-2");
    }

    private static void draws() {
        // From 0 the numbers drawn are 0, 8, 8, 7, 8.
        String pair = "town days 2 home 0 odds %;clock at 0 late 1 loses 0 rent 0;clock at 0 late 2 loses 0 rent 0;trade waits 1;";
        E.says("VII", "DRAWS: x becomes (1103515245 x + 12345) modulo 2,147,483,648 (at first it is the seed); a draw: x / 65536, cut, modulo 10.");
        for (int odds = 0; odds <= 10; odds++) {
            E.of(pair.replace("%", "" + odds), "drawn(0, 1) " + (odds < 1 ? 0 : odds < 8 ? 1 : 3));
        }
        for (int seed : new int[] {0, 1, 7, 65535, 1999999999, 2000000000}) {
            java.math.BigInteger x = java.math.BigInteger.valueOf(seed).multiply(java.math.BigInteger.valueOf(1103515245))
                .add(java.math.BigInteger.valueOf(12345)).mod(java.math.BigInteger.ONE.shiftLeft(31));
            int draw = x.shiftRight(16).mod(java.math.BigInteger.TEN).intValue();
            for (int odds = 0; odds <= 10; odds++) {
                E.of(clocks("town days 1 home 0 odds " + odds + ";", 4) + "trade waits 1;", "drawn(" + seed + ", 0) " + (draw < odds ? 34 : 4) + "; drawn(" + seed + ", 1) " + (draw < odds ? 1 : 0));
            }
        }
        E.says("VII", "Days drawn: DAY by DAY, CLOCK by CLOCK that COUNTS and strikes, a draw: below odds it oversleeps.");
        // Day 0: 0 (below 1), 8; day 1: 8, 7. One that does not count or strike takes no draw.
        E.of(pair.replace("%", "1"), "drawn(0, 0) 33; enter(0, 0, 1) 0; drawn(0, 0) 34; enter(0, 1, 0) 1; drawn(0, 0) 34; undo() 1; stop(1, 1) 2; drawn(0, 0) 632; drawn(0, 1) 1");
        E.of(pair.replace("%", "8"), "drawn(0, 0) 63; drawn(0, 1) 3; stop(0, 0) 1; drawn(0, 0) 1200; drawn(0, 1) 1; enter(0, 0, 1) 0; drawn(0, 0) 34; drawn(0, 1) 1");
        E.says(65, "Days drawn (VII) from a seed (0 .. 2,000,000,000), what 0: WAIT of all DAYS, 1: DAYS on which some CLOCK that COUNTS overslept, as bits.");
        E.of(pair.replace("%", "10"), "drawn(0, 0) 64; drawn(0, 1) 3; drawn(2000000000, 0) 64; drawn(2000000000, 1) 3; waits() 4; late(0, 0) 1; enter(0, 0, 1) 0; enter(1, 1, 1) 0; drawn(5, 1) 1; drawn(5, 0) 32");
        E.of(pair.replace("%", "0"), "drawn(0, 0) 4; drawn(0, 1) 0; stop(0, 1) 1; drawn(9, 0) 602; drawn(9, 1) 0");
        E.of(clocks(two(10), -40) + "trade waits 1;", "drawn(0, 0) 0; drawn(0, 1) 3");
        E.stays("drawn(0, 0) 0; drawn(0, 1) 0; drawn(2000000000, 0) 0", Lead.BARE);
        E.says(65, "-2: there are none such, no TOWN.");
        E.stays("drawn(-1, 0) -2; drawn(2000000001, 0) -2; drawn(MAX, 1) -2; drawn(MIN, 1) -2; drawn(0, 2) -2; drawn(0, -1) -2; drawn(0, MIN) -2; drawn(0, MAX) -2", Lead.RICH, Lead.BARE);
        E.noTown("drawn(0, 0)", "-2");
        E.noTown("drawn(0, 1)", "-2");
        E.says(66, "Of n (1 .. 20) such from seeds, the seed and 1, .., in how many a CLOCK is slowest() on a DAY.");
        luck(pair);
        E.says(66, "-2: there are none such.");
        E.stays("luck(-1, 1, 0, 0) -2; luck(2000000001, 1, 0, 0) -2; luck(MIN, 1, 0, 0) -2; luck(MAX, 1, 0, 0) -2;"
            + "luck(0, 0, 0, 0) -2; luck(0, 21, 0, 0) -2; luck(0, -1, 0, 0) -2; luck(0, MIN, 0, 0) -2; luck(0, MAX, 0, 0) -2", Lead.RICH, Lead.BARE);
        E.noClock("luck(0, 1, %, 0)", "-2");
        E.noDay("luck(0, 1, 0, %)", "-2");
    }

    private static void luck(String pair) {
        // Seed 0, odds 1: clock 0 oversleeps on day 0 alone. Odds 8: clock 0 on day 0, clock 1 on day 1.
        E.of(pair.replace("%", "1"), "luck(0, 1, 0, 0) 1; luck(0, 1, 1, 0) 0; luck(0, 1, 0, 1) 0; luck(0, 1, 1, 1) 1");
        SlowNoon x = Due.told(pair.replace("%", "4"));
        for (int seed : new int[] {0, 3, 1000, 1999999999, 2000000000}) {
            int[] last = new int[20];
            for (int i = 0; i < 20; i++) {
                last[i] = drawnLast(seed + i, 4);
            }
            for (int n = 1; n <= 20; n++) {
                int ofFirst = 0;
                for (int i = 0; i < n; i++) {
                    ofFirst += last[i] == 0 ? 1 : 0;
                }
                E.of(x, "luck(" + seed + ", " + n + ", 0, 0) " + ofFirst + "; luck(" + seed + ", " + n + ", 1, 0) " + (n - ofFirst));
            }
        }
        E.of(pair.replace("%", "0"), "luck(0, 20, 0, 0) 0; luck(0, 20, 1, 1) 20; stop(0, 1) 1; luck(0, 20, 0, 1) 20; enter(0, 1, 1) 0; luck(0, 20, 0, 1) 0; enter(1, 1, 1) 0; luck(0, 20, 1, 1) 0");
        E.stays("luck(0, 1, 3, 0) 0; luck(2000000000, 20, 3, 0) 0", Lead.RICH);
    }

    /** Of two clocks, 1 and 2 minutes late, the last on day 0, by the words of the document. */
    private static int drawnLast(long seed, int odds) {
        long x = Math.floorMod(1103515245L * seed + 12345L, 2147483648L);
        boolean first = x / 65536 % 10 < odds;
        x = Math.floorMod(1103515245L * x + 12345L, 2147483648L);
        boolean second = x / 65536 % 10 < odds;
        return first && !second ? 0 : 1;
    }

    public static void main(String[] args) throws IOException {
        away();
        under();
        chances();
        draws();
        E.close();
    }
}
