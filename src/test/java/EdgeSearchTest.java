import java.io.IOException;

/** The document's sentences on burying, mending, the round, quorums and the race: terms IV to VI, promises 35 to 49. */
public final class EdgeSearchTest {
    private static final Edges E = new Edges("EdgeSearchTest", "IV", "V", "VI", "35-49");
    private static final String ONE = "town days 2 home 0 odds 0;";
    // Lates: 9 10 11.
    private static final String LATE = "town days 3 home 0 odds 0;clock at 0 late 9 loses 1 rent 0;trade waits 1;";

    private static SlowNoon street() {
        return Lead.street();
    }

    /** Three numbers for each clock: its place, its late, its rent. */
    private static String clocks(String head, int[]... told) {
        StringBuilder s = new StringBuilder(head);
        for (int[] t : told) {
            s.append("clock at ").append(t[0]).append(t[1] < 0 ? " early " : " late ").append(Math.abs(t[1])).append(" loses 0 rent ").append(t[2]).append(";");
        }
        return s.toString();
    }

    private static int[] c(int place, int late, int rent) {
        return new int[] {place, late, rent};
    }

    private static void burials() {
        E.says(35, "The fewest CLOCKS that must be dead (besides those that are) so that NOON is m (0 .. 600) at most on all DAYS.");
        E.of(street(), "bury(16) 0; bury(15) 1; bury(14) 2; bury(10) 2; bury(0) 2; bury(600) 0; enter(3, 2, 0) 1; bury(16) 0; bury(15) 2; stop(2, 2) -4; bury(600) 1; bury(0) 4");
        E.of(street(), "enter(0, 2, 1) 0; bury(15) 0; bury(14) 1; bury(12) 2");
        E.of(clocks(ONE, c(0, 0, 0), c(0, -9, 0)), "bury(0) 0");
        E.of(clocks(ONE, c(0, 9, 0), c(0, 9, 0), c(0, 9, 0), c(0, 9, 0), c(0, 9, 0), c(0, 9, 0)), "bury(8) 6; buries(8) 63; bury(9) 0");
        E.of("town days 2 home 0 odds 0;clock at 0 late 9 gains 9 rent 0;clock at 0 late 0 loses 9 rent 0;", "bury(8) 2; buries(8) 3; bury(9) 0");
        E.stays("bury(0) 0; bury(600) 0", Lead.BARE);
        E.says(35, "-2: there is no such m, no TOWN.");
        E.noMinute("bury(%)", "-2");
        E.noTown("bury(0)", "-2");
        E.says(36, "Which, as bits: the least set of so few.");
        E.of(street(), "buries(16) 0; buries(15) 1; buries(14) 3; buries(0) 3; buries(600) 0; enter(3, 2, 0) 1; buries(15) 9; stop(2, 2) -4; buries(600) 4; buries(0) 15");
        E.stays("buries(0) 0", Lead.BARE);
        E.says(36, "-2 likewise.");
        E.noMinute("buries(%)", "-2");
        E.noTown("buries(0)", "-2");
    }

    private static void mendings() {
        E.says("IV", "A CLOCK that is mended on a DAY has LATE 0 on it, strikes again, and loses as told from then on (oiled or not).");
        E.of(street(), "mend(0, 0) 10; late(0, 0) 0; late(0, 1) 3; late(0, 2) 6");
        E.of(street(), "oil(0, 0) 10; late(0, 2) 10; mend(0, 1) 10; late(0, 1) 0; late(0, 2) 3");
        E.of(street(), "stop(0, 0) 10; mend(0, 1) NEVER; late(0, 0) NEVER; late(0, 1) 0; late(0, 2) 3");
        E.of(street(), "mend(2, 1) -5; late(2, 0) -6; late(2, 1) 0; late(2, 2) 1; mend(3, 1) 18; late(3, 2) -2");
        E.says("IV", "MENDS: unlike pairs of a DAY and a CLOCK, done on that DAY behind its other acts; rows of pairs rise.");
        // Twice on one day would be one mending: days 0 and 1 it is then.
        E.of(LATE, "mends(2) 1; mended(2) 0");
        E.of(LATE, "stop(0, 1) 10; mends(0) 1209; mends(1) 10; mended(1) 10; mends(2) 1; mended(2) 0");
        E.of(LATE, "oil(0, 0) 9; mends(0) 27; mends(1) 3; mended(1) 0");
        E.of(LATE, "mend(0, 2) 11; mends(0) 19; mends(1) 1; mended(1) 0; mends(2) 0; mended(2) 0");
        // Clock 1 on day 1, then clock 0 on day 2: the row begins with the former.
        E.of("town days 3 home 0 odds 0;clock at 0 early 20 loses 9 rent 0;clock at 0 early 20 loses 9 rent 0;trade waits 1;",
            "stop(1, 1) -11; stop(0, 2) -2; mends(0) 1200; mends(1) 600; mended(1) 11; mends(2) 9; mended(2) 11");
        E.says(37, "MENDS: the least WAIT of all DAYS by n (0 .. 3) mendings at most (IV).");
        E.of(LATE, "mends(0) 30; mends(1) 3; mends(2) 1; mends(3) 0; waits() 30; count(5) 0");
        E.of(street(), "mends(0) 322; mends(1) 273; mends(2) 63; mends(3) 21");
        E.of(street(), "stop(0, 0) 10; stop(1, 0) 15; stop(2, 0) -6; mends(2) 12600; mends(3) 63");
        E.of(clocks(ONE, c(0, -9, 0)) + "trade waits 9;", "mends(3) 0");
        E.stays("mends(0) 0; mends(3) 0", Lead.BARE);
        E.says(37, "-2: there is no such n, no TOWN.");
        E.stays("mends(-1) -2; mends(4) -2; mends(MIN) -2; mends(MAX) -2; mends(256) -2", Lead.RICH, Lead.BARE);
        E.noTown("mends(0)", "-2");
        E.noTown("mends(4)", "-2");
        E.says(38, "The first of those by which it is so: 10 times its DAY and its CLOCK (the least row of so few as do).");
        E.of(street(), "mended(1) 1; mended(2) 0; mended(3) 0");
        E.of(clocks("town days 7 home 0 odds 0;", c(0, 0, 0), c(0, 0, 0), c(0, 0, 0), c(0, 0, 0), c(0, 0, 0), c(0, 0, 0)) + "trade waits 1;",
            "stop(5, 6) 0; mends(1) 0; mended(1) 65; mended(2) 65; mended(3) 65; mended(0) NONE");
        // One is enough for the least, so no second one: days 0 and 1 would do as well.
        E.of(clocks(ONE, c(0, 9, 0)) + "trade waits 1;", "mend(0, 1) 9; mended(1) 0; mended(2) 0; mended(3) 0; mends(3) 0");
        E.of(clocks(ONE, c(0, 3, 0), c(0, 9, 0)) + "trade waits 1;", "mended(1) 1; mended(2) 0");
        // On days 0 and 1 six are late, too many for two mendings; on day 2 two are left, and a day ahead they would lose again.
        E.of("town days 3 home 0 odds 0;" + "clock at 0 late 50 loses 1 rent 0;".repeat(6) + "trade waits 1;",
            "enter(2, 2, 1) 0; enter(3, 2, 1) 0; enter(4, 2, 1) 0; enter(5, 2, 1) 0; mends(0) 153; mends(1) 153; mended(1) NONE; mends(2) 101; mended(2) 20; mends(3) 101; mended(3) 20");
        // Clock 1 is last from day 1 on; as it loses nothing, day 0 does as well, and is less.
        E.of("town days 5 home 0 odds 0;clock at 0 late 20 gains 9 rent 0;clock at 0 late 15 loses 0 rent 0;trade waits 1;",
            "mends(0) 80; mends(1) 33; mended(1) 1; mends(2) 0; mended(2) 0");
        // It would lose again from day 1 on, if it were mended then: mended a day ahead, it is oiled behind that.
        E.of("town days 5 home 0 odds 0;clock at 0 late 60 loses 0 rent 0;clock at 0 late 50 loses 9 rent 0;trade waits 1;",
            "enter(0, 1, 1) 0; oil(1, 1) 59; mends(0) 296; mends(1) 96; mended(1) 1");
        E.says(38, "NONE: none is wanted;");
        E.of(LATE, "mended(0) NONE");
        E.of(clocks(ONE, c(0, 9, 0), c(0, 9, 0)) + "trade waits 1;", "mended(1) NONE; mended(2) 0");
        E.of(clocks(ONE, c(0, 9, 0)), "mended(3) NONE; stop(0, 0) 9; mended(3) NONE");
        E.of(clocks(ONE, c(0, -9, 0)) + "trade waits 9;", "mended(3) NONE");
        E.of(clocks(ONE, c(0, 9, 0)) + "trade waits 9;", "enter(0, 0, 1) 0; mended(3) NONE");
        E.stays("mended(0) NONE; mended(3) NONE", Lead.BARE);
        E.says(38, "-2 likewise.");
        E.stays("mended(-1) -2; mended(4) -2; mended(MIN) -2; mended(MAX) -2", Lead.RICH, Lead.BARE);
        E.noTown("mended(0)", "-2");
        E.says(39, "The fewest mendings (0 .. 3) by which NOON is m (0 .. 600) at most on all DAYS.");
        E.of(LATE, "fewest(11) 0; fewest(600) 0; fewest(10) 1; fewest(2) 1; fewest(1) 2; fewest(0) 3; fewest(600) 0; stop(0, 2) 11; fewest(600) 1; fewest(0) 3");
        E.of(clocks(ONE, c(0, 9, 0), c(0, 8, 0), c(0, 7, 0), c(0, 6, 0)), "fewest(9) 0; fewest(8) 1; fewest(7) 2; fewest(6) 3; fewest(5) NONE");
        E.of(clocks(ONE, c(0, -9, 0)), "fewest(0) 0");
        E.stays("fewest(0) 0; fewest(600) 0", Lead.BARE);
        E.says(39, "NONE: by none;");
        E.of("town days 4 home 0 odds 0;clock at 0 late 9 loses 1 rent 0;", "fewest(0) NONE; fewest(1) 2");
        E.of(clocks(ONE, c(0, 0, 0), c(0, 0, 0), c(0, 0, 0), c(0, 0, 0)), "stop(0, 0) 0; stop(1, 0) 0; stop(2, 0) 0; fewest(600) 3; stop(3, 1) 0; fewest(600) NONE");
        E.says(39, "-2: there is no such m, no TOWN.");
        E.noMinute("fewest(%)", "-2");
        E.noTown("fewest(0)", "-2");
    }

    private static void rounds() {
        E.says("V", "ROUND: a bellman is at home in minute 0, goes one PLACE a minute along the street, or stands.");
        for (int home = 0; home < 10; home++) {
            E.of(clocks("town days 1 home " + home + " odds 0;", c(9, 0, 0)), "round(0) " + (9 - home));
            E.of(clocks("town days 1 home " + home + " odds 0;", c(0, 5, 0)), "round(0) " + Math.max(5, home));
        }
        E.says("V", "He hears a CLOCK (that COUNTS), if he is at its PLACE in the minute of its LATE, or later.");
        E.of(clocks(ONE, c(7, 7, 0)), "round(0) 7");
        E.of(clocks(ONE, c(7, 6, 0)), "round(0) 7");
        E.of(clocks(ONE, c(7, 8, 0)), "round(0) 8");
        E.of(clocks(ONE, c(7, -60, 0)), "round(0) 7");
        E.of(clocks(ONE, c(0, -60, 0)), "round(0) 0");
        E.of(clocks(ONE, c(3, 1, 0), c(9, 60, 0)), "enter(1, 1, 1) 0; round(0) 60; round(1) 3");
        E.says("V", "A way: a row of all CLOCKS that COUNT: he goes to each in turn, stands till he hears it, goes on.");
        E.of(clocks(ONE, c(5, 20, 0), c(9, 0, 0)), "row(0, 0, 2) 0; write(0, 1, 1) 0; goes(0, 0) 24; write(0, 0, 1) 0; write(0, 1, 0) 0; goes(0, 0) 20; round(0) 20; rounds(0, 0) 1; rounds(0, 1) 0");
        E.says("V", "None COUNTS: minute 0.");
        E.of(Lead.bare(), "round(0) 0; row(0, 0, 0) 0; goes(0, 0) 0");
        E.of(clocks("town days 2 home 9 odds 0;", c(0, 5, 0)), "enter(0, 1, 1) 0; round(0) 9; round(1) 0; row(1, 2, 0) 0; goes(1, 1) 0; goes(1, 0) -2");
        E.says(40, "ROUND (V): the least minute at which he has heard all, on a DAY.");
        E.of(street(), "round(0) 19; round(1) 20; round(2) 20; enter(0, 0, 1) 0; round(0) 15; enter(1, 0, 1) 0; round(0) 7");
        E.of(clocks("town days 1 home 5 odds 0;", c(0, 0, 0), c(9, 0, 0), c(1, 0, 0), c(8, 0, 0), c(4, 0, 0), c(6, 0, 0)), "round(0) 13");
        E.says(40, "NEVER: he never has;");
        E.of(street(), "stop(2, 1) -5; round(0) 19; round(1) NEVER; round(2) NEVER; stop(3, 0) 20; round(0) 19");
        E.says(40, "-2: there is no such DAY.");
        E.noDay("round(%)", "-2");
        E.says(41, "CLOCK i (from 0) of the first such way (the least row).");
        E.of(street(), "rounds(0, 0) 0; rounds(0, 1) 1; rounds(0, 2) 2; rounds(2, 0) 2; rounds(2, 1) 1; rounds(2, 2) 0");
        E.of(clocks(ONE, c(3, 9, 0), c(3, 9, 0), c(3, 9, 0)), "rounds(0, 0) 0; rounds(0, 1) 1; rounds(0, 2) 2");
        E.of(clocks("town days 1 home 5 odds 0;", c(0, 0, 0), c(9, 0, 0), c(1, 0, 0), c(8, 0, 0), c(4, 0, 0), c(6, 0, 0)),
            "rounds(0, 0) 1; rounds(0, 1) 3; rounds(0, 2) 5; rounds(0, 3) 4; rounds(0, 4) 2; rounds(0, 5) 0");
        // As the last strikes at 60, any way that has it last, and some others, are as soon.
        E.of(clocks(ONE, c(0, 60, 0), c(1, 0, 0), c(2, 0, 0)), "round(0) 60; rounds(0, 0) 1; rounds(0, 1) 2; rounds(0, 2) 0");
        E.says(41, "NONE: there is none such;");
        E.stays("rounds(0, 3) NONE; rounds(0, -1) NONE; rounds(1, 4) NONE; rounds(0, 6) NONE; rounds(0, MIN) NONE; rounds(0, MAX) NONE", Lead.RICH);
        E.stays("rounds(0, 0) NONE; rounds(1, 0) NONE; rounds(0, -1) NONE", Lead.BARE);
        E.of(street(), "rounds(0, 0) 0; stop(1, 0) 15; rounds(0, 0) NONE; rounds(0, 1) NONE; rounds(0, 2) NONE");
        E.says(41, "-2 likewise.");
        E.noDay("rounds(%, 0)", "-2");
        E.noDay("rounds(%, -1)", "-2");
        goes();
        lodges();
    }

    private static SlowNoon withRow(SlowNoon x, int width, long... numbers) {
        Due.fill(x, 0, width, numbers);
        return x;
    }

    private static void goes() {
        E.says(42, "The minute at which he has heard all by a SLOT's row of CLOCKS (each that COUNTS once).");
        for (int width = 0; width < 4; width++) {
            E.of(withRow(street(), width, 0, 1, 2), "goes(0, 0) 19; goes(0, 1) 22; goes(0, 2) 25");
            E.of(withRow(street(), width, 2, 1, 0), "goes(0, 0) 20; goes(0, 2) 20");
            E.of(withRow(street(), width, 1, 0, 2), "goes(0, 0) 29");
        }
        E.of(withRow(street(), 0, 1, 2), "enter(0, 1, 1) 0; goes(0, 0) -2; goes(0, 1) 19; enter(1, 2, 1) 0; goes(0, 2) -2");
        E.says(42, "NEVER: he never has;");
        E.of(withRow(street(), 0, 0, 1, 2), "stop(0, 1) 13; goes(0, 0) 19; goes(0, 1) NEVER; goes(0, 2) NEVER");
        E.of(withRow(street(), 0, 2, 1, 0), "stop(2, 0) -6; goes(0, 0) NEVER; stop(1, 0) 15; goes(0, 0) NEVER");
        E.says(42, "-2: there is no such DAY, SLOT, TOWN, it is no such row (asked last);");
        E.noDay("goes(1, %)", "-2");
        E.noDay("goes(2, %)", "-2");
        E.noSlot("goes(%, 0)", "-2");
        E.noTown("goes(0, 0)", "-2");
        long[][] bad = {{}, {0}, {0, 1}, {0, 1, 1}, {0, 1, 2, 2}, {0, 1, 2, 3}, {0, 1, 3}, {0, 1, 4}, {0, 1, 6}, {0, 1, -1}, {0, 1, 32}, {0, 1, 34},
            {0, 1, 2 + (1L << 32)}, {0, 1, 2 + (1L << 63)}, {Long.MIN_VALUE, Long.MAX_VALUE, 0}};
        for (long[] row : bad) {
            E.of(withRow(street(), 3, row), "goes(0, 0) -2");
        }
        E.of(withRow(street(), 0, 0, 1, 2, 0), "goes(0, 0) -2");
        E.of(withRow(street(), 0, new long[60]), "goes(0, 0) -2");
        E.stays("goes(0, 0) -2; goes(1, 1) -2; goes(1, 2) -2", Lead.RICH);
        E.stays("goes(0, 0) -2", Lead.BARE);
        E.says(42, "-6: it has nothing.");
        E.stays("goes(2, 0) -6; goes(3, 2) -6", Lead.RICH);
        E.stays("goes(1, 0) -6; goes(2, 1) -6", Lead.BARE);
    }

    private static void lodges() {
        E.says(43, "The PLACE (0 .. 9) from which ROUND is soonest, if he began there, the first of several.");
        E.of(street(), "lodge(0) 8; round(0) 19; count(1) 2");
        E.of(clocks(ONE, c(7, 3, 0)), "lodge(0) 4; stop(0, 1) 3; lodge(1) 0");
        E.of(clocks(ONE, c(7, -3, 0)), "lodge(0) 7");
        E.of(clocks(ONE, c(9, 0, 0)), "lodge(0) 9; enter(0, 1, 1) 0; lodge(1) 0");
        E.of(clocks(ONE, c(9, 60, 0)), "lodge(0) 0");
        E.of(clocks("town days 1 home 9 odds 0;", c(3, 0, 0), c(6, 0, 0)), "lodge(0) 3; round(0) 6");
        E.stays("lodge(0) 0; lodge(1) 0", Lead.BARE);
        E.says(43, "-2: there is no such DAY.");
        E.noDay("lodge(%)", "-2");
    }

    private static void quorums() {
        E.says(44, "QUORUM: the minute by which k (1 .. 6) of those that COUNT struck on a DAY.");
        E.of(street(), "quorum(0, 1) -6; quorum(0, 2) 10; quorum(0, 3) 15; quorum(2, 2) 15; quorum(2, 3) 16; enter(3, 0, 0) 1; quorum(0, 4) 20");
        E.of(clocks(ONE, c(0, 4, 0), c(0, 4, 0), c(0, 1, 0), c(0, 4, 0), c(0, 9, 0), c(0, 8, 0)), "quorum(0, 1) 1; quorum(0, 2) 4; quorum(0, 3) 4; quorum(0, 4) 4; quorum(0, 5) 8; quorum(0, 6) 9");
        E.says(44, "NEVER: not so many do;");
        E.of(street(), "quorum(0, 4) NEVER; quorum(0, 6) NEVER; stop(2, 0) -6; quorum(0, 3) NEVER; quorum(0, 2) 15; enter(0, 0, 1) 0; quorum(0, 2) NEVER; quorum(0, 1) 15");
        E.stays("quorum(0, 1) NEVER; quorum(1, 6) NEVER", Lead.BARE);
        E.says(44, "-2: there are none such.");
        E.stays("quorum(0, 0) -2; quorum(0, 7) -2; quorum(0, -1) -2; quorum(0, MIN) -2; quorum(0, MAX) -2", Lead.RICH, Lead.BARE);
        E.noDay("quorum(%, 1)", "-2");
        E.says(45, "The greatest k by which that is m (0 .. 600) at most on all DAYS.");
        E.of(street(), "law(16) 3; law(15) 2; law(14) 1; law(0) 1; law(600) 3; enter(2, 1, 1) 0; law(600) 2; law(15) 1; stop(1, 0) 15; law(600) 1");
        E.of(clocks(ONE, c(0, 4, 0), c(0, 4, 0), c(0, 1, 0), c(0, 4, 0), c(0, 9, 0), c(0, 8, 0)), "law(600) 6; law(8) 5; law(7) 4; law(4) 4; law(3) 1; law(1) 1; law(0) 0");
        E.of("town days 2 home 0 odds 0;clock at 0 late 9 gains 9 rent 0;clock at 0 late 1 loses 0 rent 0;", "law(5) 1; law(9) 2; law(0) 0");
        E.says(45, "0: none;");
        E.of(clocks(ONE, c(0, 4, 0)), "law(3) 0; law(4) 1; enter(0, 1, 1) 0; law(600) 0");
        E.of(clocks(ONE, c(0, 4, 0)), "stop(0, 1) 4; law(600) 0");
        E.stays("law(0) 0; law(600) 0", Lead.BARE);
        E.says(45, "-2: there is no such m, no TOWN.");
        E.noMinute("law(%)", "-2");
        E.noTown("law(0)", "-2");
        E.says(46, "LATE of the CLOCK in the middle on a DAY (of an even number the earlier one), of those that COUNT.");
        E.of(street(), "middle(0) 10; middle(2) 15; enter(3, 0, 0) 1; middle(0) 10; enter(2, 0, 1) 0; middle(0) 15; enter(3, 0, 1) 0; middle(0) 10; enter(0, 0, 1) 0; middle(0) 15");
        E.of(clocks(ONE, c(0, 6, 0), c(0, 5, 0), c(0, 4, 0), c(0, 3, 0), c(0, 2, 0), c(0, 1, 0)), "middle(0) 3; enter(5, 0, 1) 0; middle(0) 4");
        E.of(clocks(ONE, c(0, -6, 0)), "middle(0) -6");
        E.of(street(), "stop(2, 0) -6; middle(0) 15");
        E.says(46, "NEVER: it does not strike, none COUNTS;");
        E.of(street(), "stop(0, 0) 10; middle(0) 15; stop(1, 0) 15; middle(0) NEVER; enter(0, 0, 1) 0; middle(0) -6");
        E.of(clocks(ONE, c(0, 4, 0)), "stop(0, 1) 4; middle(1) NEVER; enter(0, 0, 1) 0; middle(0) NEVER");
        E.stays("middle(0) NEVER", Lead.BARE);
        E.says(46, "-1,000: there is no such DAY.");
        E.noDay("middle(%)", "-1000");
    }

    private static void races() {
        E.says("VI", "RACE: each of two owners hangs a weight of 0 .. 5 on his CLOCK (so many minutes LATE more that DAY).");
        // Five minutes are enough to be the last at 15, the first of two; 16 is out of reach.
        E.of(clocks(ONE, c(0, 10, 999), c(0, 15, 0)), "rests(0, 1, 0) 1; rest(0, 1, 0) 50; race(0, 1, 0) 15; rest(1, 0, 0) 5; race(1, 0, 0) 15; late(0, 0) 10; noon(0) 15");
        E.of(clocks(ONE, c(0, 10, 999), c(0, 16, 0)), "rests(0, 1, 0) 1; rest(0, 1, 0) 0; race(0, 1, 0) 16");
        // The second of two that are alike is not slowest(): it must be later.
        E.of(clocks(ONE, c(0, 15, 0), c(0, 10, 999)), "rests(0, 1, 0) 1; rest(0, 1, 0) 0; race(0, 1, 0) 15");
        E.of(clocks(ONE, c(0, 15, 0), c(0, 11, 999)), "rests(0, 1, 0) 1; rest(0, 1, 0) 5; race(0, 1, 0) 16");
        E.says("VI", "He has its rent, if it is slowest() then, less 10 for each minute of his weight.");
        E.of(clocks(ONE, c(0, 10, 21), c(0, 12, 0)), "rests(0, 1, 0) 1; rest(0, 1, 0) 20; race(0, 1, 0) 12");
        E.of(clocks(ONE, c(0, 10, 20), c(0, 12, 0)), "rests(0, 1, 0) 2; rest(0, 1, 0) 0; race(0, 1, 0) 12");
        E.of(clocks(ONE, c(0, 10, 19), c(0, 12, 0)), "rests(0, 1, 0) 1; rest(0, 1, 0) 0; race(0, 1, 0) 12");
        E.of(clocks(ONE, c(0, 10, 999), c(0, 12, 0), c(0, 30, 0)), "rests(0, 1, 0) 1; rest(0, 1, 0) 0; race(0, 1, 0) 30");
        E.of(clocks(ONE, c(0, 10, 999), c(0, 12, 0), c(0, 30, 0)), "enter(2, 0, 1) 0; rest(0, 1, 0) 20; enter(2, 1, 0) 1; rest(0, 1, 1) 0");
        E.says("VI", "REST: neither has more by another weight alone.");
        // 15 each, alike: the second has more by 1, then the first by 1, then the second by none, ..
        E.of(clocks(ONE, c(0, 10, 15), c(0, 10, 15)), "rests(0, 1, 0) 0");
        E.of(clocks(ONE, c(0, 10, 0), c(0, 10, 0)), "rests(0, 1, 0) 1; rest(0, 1, 0) 0");
        // 10 each: what the second has by 1 is no more than none, and so is what the first has by 1 then.
        E.of(clocks(ONE, c(0, 10, 10), c(0, 10, 10)), "rests(0, 1, 0) 2; rest(0, 1, 0) 0; race(0, 1, 0) 11");
        E.says(47, "RACE (VI): pairs of weights at REST of two CLOCKS on a DAY: how many.");
        E.of(clocks(ONE, c(0, 11, 0), c(0, 10, 20)), "rests(0, 1, 0) 2; rests(1, 0, 0) 2; rests(0, 1, 1) 2");
        E.of(street(), "rests(0, 1, 0) 0; rests(0, 2, 0) 1; rests(1, 2, 0) 1; rests(0, 1, 2) 0");
        E.says(47, "-2: there are none such, one twice, one does not COUNT or strike.");
        noRace("rests");
        E.says(48, "The first such pair: 10 times the weight of the first one and that of the other one.");
        E.of(clocks(ONE, c(0, 10, 999), c(0, 12, 0)), "rest(0, 1, 0) 20; rest(1, 0, 0) 2");
        E.of(clocks(ONE, c(0, 11, 0), c(0, 10, 20)), "rest(0, 1, 0) 0; rest(1, 0, 0) 0");
        E.says(48, "NONE: there is none;");
        E.of(clocks(ONE, c(0, 10, 15), c(0, 10, 15)), "rest(0, 1, 0) NONE; rest(1, 0, 1) NONE");
        E.says(48, "-2 likewise.");
        noRace("rest");
        E.says(49, "The greatest NOON of all such pairs.");
        E.of(clocks(ONE, c(0, 11, 0), c(0, 10, 20)), "race(0, 1, 0) 12; race(1, 0, 0) 12");
        E.of(clocks(ONE, c(0, -10, 0), c(0, -12, 0)), "race(0, 1, 0) -10");
        E.of(street(), "stop(2, 0) -6; rests(0, 1, 0) 1; race(0, 1, 0) NEVER; race(0, 1, 1) NEVER");
        E.says(49, "NEVER: there is none;");
        E.of(clocks(ONE, c(0, 10, 15), c(0, 10, 15)), "race(0, 1, 0) NEVER");
        E.says(49, "-2 likewise.");
        noRace("race");
    }

    private static void noRace(String name) {
        E.noClock(name + "(%, 1, 0)", "-2");
        E.noClock(name + "(1, %, 0)", "-2");
        E.noClock(name + "(%, %, 0)", "-2");
        E.noDay(name + "(0, 1, %)", "-2");
        // One twice; clock 3 is dead on day 0, clock 0 on day 2.
        E.stays(name + "(0, 0, 0) -2; " + name + "(1, 1, 2) -2; " + name + "(3, 0, 0) -2; " + name + "(0, 3, 0) -2; " + name + "(0, 1, 2) -2; " + name + "(1, 0, 2) -2", Lead.RICH);
        // Clock 2 stops on day 1.
        E.of(Lead.street(), "stop(2, 1) -5; " + name + "(2, 1, 1) -2; " + name + "(1, 2, 1) -2; " + name + "(1, 2, 2) -2; " + name + "(3, 1, 0) -2");
    }

    public static void main(String[] args) throws IOException {
        burials();
        mendings();
        rounds();
        quorums();
        races();
        E.close();
    }
}
