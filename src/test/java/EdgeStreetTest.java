import java.io.IOException;

/** The document's sentences on strikes, noons and what they cost: terms II and III, promises 7 to 34. */
public final class EdgeStreetTest {
    private static final Edges E = new Edges("EdgeStreetTest", "II", "III", "7-34");
    private static final String ONE = "town days 2 home 0 odds 0;";

    private static SlowNoon street() {
        return Lead.street();
    }

    private static SlowNoon bare() {
        return Lead.bare();
    }

    private static String clocks(String head, int... lates) {
        StringBuilder s = new StringBuilder(head);
        for (int late : lates) {
            s.append("clock at 0 ").append(late < 0 ? "early " : "late ").append(Math.abs(late)).append(" loses 0 rent 10;");
        }
        return s.toString();
    }

    private static void strikes() {
        E.says("II", "NEVER is 10,000.");
        E.due("NEVER", SlowNoon.NEVER, 10000);
        E.of(street(), "stop(0, 0) 10; late(0, 0) 10000; noon(0) 10000");
        E.says("II", "LATE of a CLOCK on DAY 0: as told; on each DAY behind it what it loses more than on the DAY ahead.");
        SlowNoon x = Due.told("town days 7 home 0 odds 0;clock at 0 late 60 loses 9 rent 0;clock at 0 early 60 gains 9 rent 0;"
            + "clock at 0 late 3 gains 1 rent 0;clock at 0 early 3 loses 1 rent 0;clock at 0 late 5 loses 0 rent 0 dead;");
        for (int day = 0; day < 7; day++) {
            E.of(x, "late(0, " + day + ") " + (60 + 9 * day) + "; late(1, " + day + ") " + (-60 - 9 * day)
                + "; late(2, " + day + ") " + (3 - day) + "; late(3, " + day + ") " + (day - 3) + "; late(4, " + day + ") 5");
        }
        E.says("II", "Acts of a DAY are done ahead of its strikes, one behind the other as they were given.");
        E.of(street(), "mend(0, 1) 13; late(0, 0) 10; late(0, 1) 0; stop(0, 1) 0; late(0, 1) NEVER; mend(0, 1) NEVER; late(0, 1) 0");
        E.of(street(), "oil(0, 1) 13; mend(0, 1) 13; late(0, 2) 3");
        E.of(street(), "mend(0, 1) 13; oil(0, 1) 0; late(0, 2) 0");
        // Those of a day come in its turn, whenever they were given.
        E.of(street(), "mend(0, 2) 16; stop(0, 1) 13; late(0, 1) NEVER; late(0, 2) 0; oil(0, 0) 10; late(0, 2) 0");
        E.of(street(), "enter(0, 2, 0) 0; enter(0, 1, 1) 0; counts(0) 7; counts(1) 6; counts(2) 7");
        E.of(street(), "enter(0, 1, 1) 0; enter(0, 1, 0) 1; counts(1) 7; enter(0, 1, 1) 0; counts(1) 6; counts(2) 6");
        E.says("II", "A CLOCK that is stopped does not strike.");
        E.of(street(), "stop(1, 1) 15; late(1, 0) 15; late(1, 1) NEVER; late(1, 2) NEVER; struck(1, 1000) 5; struck(0, 1000) 7; quorum(1, 3) NEVER");
        E.says("II", "A CLOCK COUNTS, if it is not dead.");
        E.of(street(), "counts(0) 7; enter(3, 0, 0) 1; counts(0) 15; enter(1, 0, 1) 0; counts(0) 13; stop(0, 0) 10; counts(0) 13");
        E.says("II", "NOON: the greatest LATE of those that COUNT (below 0, too);");
        E.of(street(), "noon(0) 15; noon(1) 15; noon(2) 16; enter(3, 0, 0) 1; noon(0) 20; noon(1) 18; noon(2) 16");
        E.of(clocks(ONE, -5), "noon(0) -5");
        E.of(clocks(ONE, -5, -3, -4), "noon(0) -3; noon(1) -3");
        E.of(clocks(ONE, -60, 0), "noon(0) 0; enter(1, 0, 1) 0; noon(0) -60");
        E.says("II", "NEVER, if one of them does not strike;");
        E.of(street(), "stop(2, 1) -5; noon(0) 15; noon(1) NEVER; noon(2) NEVER; enter(2, 2, 1) 0; noon(2) 16");
        E.of(street(), "stop(3, 0) 20; noon(0) 15; enter(3, 1, 0) 1; noon(0) 15; noon(1) NEVER");
        E.says("II", "0, if none COUNTS.");
        E.of(bare(), "noon(0) 0; noon(1) 0");
        E.of(clocks(ONE, -5), "enter(0, 1, 1) 0; noon(0) -5; noon(1) 0");
        E.of(clocks(ONE, 5), "stop(0, 0) 5; enter(0, 1, 1) 0; noon(0) NEVER; noon(1) 0");
        E.says("III", "WAIT of a DAY: NOON (0 at least; NEVER: 600), times all that TRADES wait, together.");
        E.of(street(), "costs(0) 105; costs(2) 112; stop(2, 1) -5; costs(0) 105; costs(1) 4200; costs(2) 4200");
        E.of(clocks(ONE, -5) + "trade waits 9;", "costs(0) 0; stop(0, 1) -5; costs(1) 5400");
        E.of(clocks(ONE, 1) + "trade waits 99;".repeat(5), "costs(0) 495; stop(0, 1) 1; costs(1) 297000; waits() 297495");
        E.of(clocks(ONE, 7), "costs(0) 0; stop(0, 0) 7; costs(0) 0");
        E.of("town days 7 home 0 odds 0;clock at 0 late 60 loses 9 rent 0;" + "trade waits 99;".repeat(5), "waits() 301455; stop(0, 0) 60; waits() 2079000");
    }

    private static void noons() {
        E.says(7, "LATE (II) of a CLOCK on a DAY, acts as now.");
        E.of(street(), "late(3, 0) 20; late(2, 2) -4; mend(2, 1) -5; late(2, 2) 1; undo() 0; late(2, 2) -4; enter(2, 0, 1) 0; late(2, 2) -4");
        E.says(7, "NEVER: it does not strike;");
        E.of(street(), "stop(3, 2) 16; late(3, 1) 18; late(3, 2) NEVER; mend(3, 2) NEVER; late(3, 2) 0");
        E.says(7, "-1,000: there are none such.");
        E.noDay("late(0, %)", "-1000");
        E.noClock("late(%, 0)", "-1000");
        E.says(8, "NOON (II) of a DAY.");
        E.of(street(), "noon(0) 15; noon(2) 16; mend(1, 1) 15; noon(1) 13; noon(0) 15; noon(2) 16");
        E.says(8, "NEVER: there is none;");
        E.of(street(), "stop(0, 2) 16; noon(1) 15; noon(2) NEVER");
        E.says(8, "-1,000: there is no such DAY.");
        E.noDay("noon(%)", "-1000");
        E.says(9, "CLOCKS that COUNT on a DAY, as bits.");
        E.of(street(), "counts(0) 7; enter(3, 2, 0) 1; counts(1) 7; counts(2) 15; enter(0, 2, 1) 0; counts(2) 14");
        E.of(clocks(ONE, 1, 2, 3, 4, 5, 6), "counts(1) 63");
        E.of(bare(), "counts(0) 0");
        E.says(9, "-2: there is none such.");
        E.noDay("counts(%)", "-2");
        E.says(10, "The CLOCK of those that COUNT that strikes last on a DAY (one that does not strike is last of all), the first of several.");
        E.of(street(), "slowest(0) 1; slowest(1) 1; slowest(2) 0; enter(3, 0, 0) 1; slowest(0) 3; slowest(2) 0; stop(2, 1) -5; slowest(0) 3; slowest(1) 2; slowest(2) 2");
        E.of(clocks(ONE, 4, 7, 7, 2, 7), "slowest(0) 1; enter(1, 0, 1) 0; slowest(0) 2; stop(3, 0) 2; slowest(0) 3; stop(0, 0) 4; slowest(0) 0");
        E.of(clocks(ONE, -9, -9), "slowest(0) 0");
        E.says(10, "NONE: none COUNTS;");
        E.of(bare(), "slowest(0) NONE; slowest(1) NONE");
        E.of(clocks(ONE, 5), "enter(0, 1, 1) 0; slowest(0) 0; slowest(1) NONE; stop(0, 1) 5; slowest(1) NONE");
        E.says(10, "-2: there is none such.");
        E.noDay("slowest(%)", "-2");
    }

    private static void orders() {
        E.says(11, "CLOCK i (from 0) of those that COUNT by LATE, then by number, on a DAY.");
        E.of(street(), "order(0, 0) 2; order(0, 1) 0; order(0, 2) 1; order(2, 1) 1; order(2, 2) 0; stop(2, 0) -6; order(0, 0) 0; order(0, 1) 1; order(0, 2) 2");
        E.of(clocks(ONE, 5, 3, 5, 3, 5, 3), "order(0, 0) 1; order(0, 1) 3; order(0, 2) 5; order(0, 3) 0; order(0, 4) 2; order(0, 5) 4");
        E.of(clocks(ONE, 5, 5, 5), "stop(0, 0) 5; stop(2, 0) 5; order(0, 0) 1; order(0, 1) 0; order(0, 2) 2");
        E.says(11, "NONE: there is none such;");
        E.stays("order(0, 3) NONE; order(0, -1) NONE; order(1, 4) NONE; order(0, 6) NONE; order(0, MIN) NONE; order(0, MAX) NONE", Lead.RICH);
        E.stays("order(0, 0) NONE; order(1, 0) NONE; order(1, -1) NONE", Lead.BARE);
        E.says(11, "-2 likewise.");
        E.noDay("order(%, 0)", "-2");
        E.noDay("order(%, -1)", "-2");
        E.says(12, "CLOCKS that COUNT and struck by a minute (-1,000 .. 1,000) of a DAY, as bits.");
        E.of(street(), "struck(0, 10) 5; struck(0, 9) 4; struck(0, -6) 4; struck(0, -7) 0; struck(0, 15) 7; struck(0, 20) 7; struck(0, 1000) 7; struck(0, -1000) 0");
        E.of(street(), "stop(1, 0) 15; struck(0, 1000) 5; enter(3, 0, 0) 1; struck(0, 19) 5; struck(0, 20) 13");
        E.stays("struck(0, 1000) 0; struck(0, -1000) 0", Lead.BARE);
        E.says(12, "-2: there are none such.");
        E.stays("struck(0, 1001) -2; struck(0, -1001) -2; struck(0, 10000) -2; struck(0, MIN) -2; struck(0, MAX) -2", Lead.RICH, Lead.BARE);
        E.noDay("struck(%, 0)", "-2");
        E.says(13, "By how much NOON would be earlier on a DAY, if its slowest() did not COUNT.");
        E.of(street(), "gap(0) 5; gap(1) 2; gap(2) 1; enter(0, 0, 1) 0; gap(0) 21; enter(2, 0, 1) 0; gap(0) 15");
        E.of(clocks(ONE, 7, 7), "gap(0) 0");
        E.of(clocks(ONE, 7), "gap(0) 7");
        E.of(clocks(ONE, -7, -9), "gap(0) 2");
        E.of(clocks(ONE, 0), "gap(0) 0");
        E.says(13, "NEVER: it is NEVER, and would not be;");
        E.of(street(), "stop(0, 1) 13; gap(0) 5; gap(1) NEVER; gap(2) NEVER");
        E.of(clocks(ONE, 7), "stop(0, 0) 7; gap(0) NEVER");
        E.says(13, "0: none COUNTS, it would be NEVER, too;");
        E.of(bare(), "gap(0) 0");
        E.of(clocks(ONE, 7), "enter(0, 0, 1) 0; gap(0) 0; stop(0, 0) 7; gap(0) 0");
        E.of(street(), "stop(0, 1) 13; stop(2, 1) -5; gap(1) 0; gap(0) 5");
        E.says(13, "-2: there is none such.");
        E.noDay("gap(%)", "-2");
    }

    private static void waits() {
        E.says(14, "WAIT (III) of a DAY.");
        E.of(street(), "costs(0) 105; costs(1) 105; costs(2) 112; mend(1, 0) 15; costs(0) 70");
        E.of(bare(), "costs(0) 0");
        E.says(14, "-2 likewise.");
        E.noDay("costs(%)", "-2");
        E.says(15, "WAIT of all DAYS.");
        E.of(street(), "waits() 322; stop(0, 2) 16; waits() 4410; enter(0, 0, 1) 0; waits() 315");
        E.of(bare(), "waits() 0");
        E.says(15, "-2: there is no TOWN.");
        E.noTown("waits()", "-2");
        E.says(16, "The DAY of most WAIT, the first of several, if it is above 0.");
        E.of(street(), "worst() 2; enter(0, 2, 1) 0; worst() 0; stop(2, 1) -5; worst() 1");
        E.of(clocks(ONE, 1) + "trade waits 1;", "worst() 0; enter(0, 0, 1) 0; enter(0, 1, 0) 1; worst() 1");
        E.says(16, "NONE: none is;");
        E.of(clocks(ONE, 5), "worst() NONE; stop(0, 0) 5; worst() NONE");
        E.of(clocks(ONE, -5) + "trade waits 1;", "worst() NONE");
        E.of(clocks(ONE, 0) + "trade waits 1;", "worst() NONE");
        E.stays("worst() NONE", Lead.BARE);
        E.says(16, "-2 likewise.");
        E.noTown("worst()", "-2");
        E.says(17, "DAYS on which a CLOCK is slowest(), as bits.");
        E.of(street(), "reign(0) 4; reign(1) 3; reign(2) 0; reign(3) 0; enter(3, 1, 0) 1; reign(3) 2; reign(1) 1; stop(2, 2) -4; reign(2) 4; reign(0) 0");
        E.of(clocks("town days 7 home 0 odds 0;", 5, 5), "reign(0) 127; reign(1) 0; enter(0, 6, 1) 0; reign(0) 63; reign(1) 64");
        E.says(17, "-2: there is none such.");
        E.noClock("reign(%)", "-2");
        E.says(18, "What a CLOCK's owner has: its rent for each such DAY.");
        E.of(street(), "rents(0) 100; rents(1) 100; rents(2) 0; rents(3) 0; enter(3, 0, 0) 1; rents(3) 140; rents(1) 0; rents(0) 100");
        E.of("town days 7 home 0 odds 0;clock at 0 late 0 loses 0 rent 999;", "rents(0) 6993; rate(0, 0) 999; rents(0) 0");
        E.says(18, "-2 likewise.");
        E.noClock("rents(%)", "-2");
        E.says(19, "WAIT of all DAYS, if a CLOCK were dead.");
        E.of(street(), "without(0) 315; without(1) 273; without(2) 322; without(3) 322; stop(0, 1) 13; without(0) 315; without(1) 8470; waits() 8505");
        // Dead on all days, whatever the register says of some of them.
        E.of(street(), "enter(1, 2, 0) 0; without(1) 273; enter(3, 0, 0) 1; waits() 378; without(3) 322");
        E.of(clocks(ONE, 5) + "trade waits 1;", "without(0) 0");
        E.says(19, "-2 likewise.");
        E.noClock("without(%)", "-2");
        E.says(20, "The CLOCK without which that is least, if less than now, the first of several.");
        E.of(street(), "best() 1; stop(2, 0) -6; best() 2; stop(0, 0) 10; best() NONE");
        E.of(clocks(ONE, 9, 5, 9) + "trade waits 1;", "best() NONE; enter(0, 0, 1) 0; best() 2; enter(0, 0, 0) 1; enter(2, 1, 1) 0; best() 0");
        E.of("town days 2 home 0 odds 0;clock at 0 late 1 loses 0 rent 0;clock at 0 late 3 gains 3 rent 0;clock at 0 late 0 loses 3 rent 0;trade waits 1;", "waits() 6; without(0) 6; without(1) 4; without(2) 4; best() 1");
        E.says(20, "NONE: none;");
        E.of(clocks(ONE, 9, 9) + "trade waits 1;", "best() NONE");
        E.of(clocks(ONE, 9), "best() NONE");
        E.stays("best() NONE", Lead.BARE);
        E.says(20, "-2: there is no TOWN.");
        E.noTown("best()", "-2");
        deals();
    }

    private static void deals() {
        E.says(21, "DEALS: CLOCKS of which being dead saves the town more WAIT than rents() are, as bits.");
        E.of(street(), "deals() 0; rate(1, 24) 50; deals() 2; rate(1, 25) 24; deals() 0; rate(0, 6) 100; deals() 1; rate(0, 7) 6; deals() 0");
        E.of(clocks(ONE, 9) + "trade waits 1;", "rents(0) 20; deals() 0; rate(0, 9) 10; deals() 0; rate(0, 8) 9; deals() 1");
        E.of(clocks(ONE, 9, 9) + "trade waits 99;", "deals() 0");
        E.stays("deals() 0", Lead.BARE);
        E.says(21, "-2 likewise.");
        E.noTown("deals()", "-2");
        E.says(22, "What the town saves in WAIT, if a CLOCK were dead on all DAYS, less its rents() (below 0, too).");
        E.of(street(), "price(0) -93; price(1) -51; price(2) 0; price(3) 0; rate(1, 24) 50; price(1) 1; rate(1, 25) 24; price(1) -1");
        E.of(street(), "stop(1, 0) 15; price(1) 12177; price(0) 0");
        E.of(clocks(ONE, -9) + "trade waits 9;", "price(0) -20");
        E.of("town days 7 home 0 odds 0;clock at 0 late 0 loses 0 rent 999;", "price(0) -6993");
        E.says(22, "-1,000,000: there is none such.");
        E.noClock("price(%)", "-1000000");
    }

    private static void choruses() {
        String five = clocks(ONE, 5, 5, 3, 3, 5);
        E.says(23, "The most CLOCKS that COUNT and strike in one minute of a DAY.");
        E.of(five, "chorus(0) 3; enter(1, 0, 1) 0; chorus(0) 2; enter(4, 0, 1) 0; chorus(0) 2; enter(2, 0, 1) 0; chorus(0) 1");
        E.of(five, "stop(0, 0) 5; stop(1, 0) 5; stop(4, 0) 5; chorus(0) 2; stop(2, 0) 3; stop(3, 1) 3; chorus(0) 1; chorus(1) 0");
        E.of(clocks(ONE, 1, 1, 1, 1, 1, 1), "chorus(0) 6");
        E.of(clocks(ONE, 1), "chorus(0) 1; tolls(0) 1");
        E.stays("chorus(0) 0", Lead.BARE);
        E.says(23, "-2: there is none such.");
        E.noDay("chorus(%)", "-2");
        E.says(24, "In how many minutes of a DAY CLOCKS that COUNT strike.");
        E.of(five, "tolls(0) 2; enter(2, 0, 1) 0; tolls(0) 2; enter(3, 0, 1) 0; tolls(0) 1; stop(0, 0) 5; tolls(0) 1; stop(1, 0) 5; stop(4, 1) 5; tolls(0) 1; tolls(1) 0");
        E.of(clocks(ONE, 1, -1, 2, -2, 3, 0), "tolls(0) 6");
        E.stays("tolls(0) 0", Lead.BARE);
        E.says(24, "-2 likewise.");
        E.noDay("tolls(%)", "-2");
        E.says(25, "CLOCKS that are dead on a DAY, as bits.");
        E.of(street(), "register(0) 8; enter(3, 1, 0) 1; enter(0, 2, 1) 0; register(0) 8; register(1) 0; register(2) 1; stop(1, 0) 15; register(0) 8");
        E.of(clocks(ONE, 1, 2, 3, 4, 5, 6), "register(0) 0; enter(5, 0, 1) 0; register(0) 32");
        E.stays("register(0) 0", Lead.BARE);
        E.says(25, "-2: there is none such.");
        E.noDay("register(%)", "-2");
        E.says(26, "The CLOCK that would be slowest() on a DAY, if the one that is did not COUNT.");
        E.of(street(), "heir(0) 0; heir(2) 1; stop(2, 0) -6; heir(0) 1; stop(0, 0) 10; heir(0) 2; slowest(0) 0");
        E.of(clocks(ONE, 4, 7, 7, 7), "heir(0) 2");
        E.says(26, "NONE: there is none;");
        E.of(clocks(ONE, 4), "heir(0) NONE");
        E.of(clocks(ONE, 4, 5), "enter(0, 1, 1) 0; heir(0) 0; heir(1) NONE; enter(1, 1, 1) 0; heir(1) NONE");
        E.stays("heir(0) NONE", Lead.BARE);
        E.says(26, "-2 likewise.");
        E.noDay("heir(%)", "-2");
    }

    private static void watches() {
        E.says(27, "DAYS of which NOON is m (0 .. 600) at most, as bits.");
        E.of(street(), "watch(15) 3; watch(14) 0; watch(16) 7; watch(0) 0; watch(600) 7; stop(2, 1) -5; watch(600) 1; watch(14) 0");
        E.of(clocks("town days 7 home 0 odds 0;", -1), "watch(0) 127; watch(600) 127");
        E.stays("watch(0) 3; watch(600) 3", Lead.BARE);
        E.says(27, "-2: there is no such m, no TOWN.");
        E.noMinute("watch(%)", "-2");
        E.noTown("watch(0)", "-2");
        E.noTown("watch(601)", "-2");
        E.says(28, "The first DAY of which NOON is above m (0 .. 600).");
        E.of(street(), "alarm(14) 0; alarm(15) 2; alarm(0) 0; stop(2, 1) -5; alarm(600) 1; alarm(15) 1; alarm(14) 0");
        E.says(28, "NONE: none;");
        E.of(street(), "alarm(16) NONE; alarm(600) NONE");
        E.of(clocks(ONE, 0), "alarm(0) NONE");
        E.stays("alarm(0) NONE; alarm(600) NONE", Lead.BARE);
        E.says(28, "-2 likewise.");
        E.noMinute("alarm(%)", "-2");
        E.noTown("alarm(0)", "-2");
        E.says(29, "The first DAY on which two CLOCKS (or one twice; dead ones, too) have one LATE.");
        E.of(street(), "meet(0, 3) 2; meet(3, 0) 2; meet(1, 1) 0; meet(3, 3) 0; mend(0, 0) 10; mend(1, 1) 15; meet(0, 1) NONE; mend(0, 1) 3; meet(0, 1) 1; mend(1, 0) 15; meet(1, 0) 0");
        E.says(29, "NONE: none;");
        E.of(street(), "meet(0, 1) NONE; meet(1, 2) NONE; meet(1, 3) NONE");
        E.says(29, "-2: there are none such.");
        E.noClock("meet(%, 0)", "-2");
        E.noClock("meet(0, %)", "-2");
        E.noClock("meet(%, %)", "-2");
        E.says(30, "DAYS on which a CLOCK has a greater LATE than another one, as bits.");
        E.of(street(), "passes(0, 1) 4; passes(1, 0) 3; passes(3, 0) 3; passes(0, 3) 0; passes(0, 0) 0; passes(2, 0) 0; passes(0, 2) 7; stop(2, 1) -5; passes(2, 0) 6; passes(0, 2) 1");
        E.says(30, "-2 likewise.");
        E.noClock("passes(%, 0)", "-2");
        E.noClock("passes(0, %)", "-2");
        E.noClock("passes(%, %)", "-2");
    }

    private static void slacks() {
        E.says(31, "How much later a CLOCK (a dead one, too) could strike on a DAY and be no later than NOON (0 at least).");
        E.of(street(), "slack(0, 0) 5; slack(1, 0) 0; slack(2, 0) 21; slack(3, 0) 0; slack(3, 2) 0; slack(2, 2) 20; mend(3, 2) 16; slack(3, 2) 16; stop(3, 1) 18; slack(3, 1) 0");
        E.of(clocks(ONE, -5), "slack(0, 0) 0; enter(0, 0, 1) 0; slack(0, 0) 5");
        E.of(clocks(ONE, 5), "enter(0, 0, 1) 0; slack(0, 0) 0");
        E.says(31, "NEVER: NOON is;");
        E.of(street(), "stop(2, 1) -5; slack(0, 0) 5; slack(0, 1) NEVER; slack(2, 1) NEVER; slack(3, 1) NEVER");
        E.says(31, "-2 likewise.");
        E.noDay("slack(0, %)", "-2");
        E.noClock("slack(%, 0)", "-2");
        E.says(32, "From the first to the last LATE of those that COUNT on a DAY.");
        E.of(street(), "spread(0) 21; spread(2) 20; enter(2, 0, 1) 0; spread(0) 5; enter(0, 0, 1) 0; spread(0) 0; enter(3, 0, 0) 1; spread(0) 5");
        E.of(clocks(ONE, -5, -9), "spread(0) 4");
        E.says(32, "0: none COUNTS;");
        E.of(clocks(ONE, 5), "enter(0, 1, 1) 0; spread(1) 0; stop(0, 0) 5; spread(1) 0");
        E.stays("spread(0) 0", Lead.BARE);
        E.says(32, "NEVER: one does not strike;");
        E.of(street(), "stop(2, 1) -5; spread(0) 21; spread(1) NEVER; spread(2) NEVER; enter(2, 2, 1) 0; spread(2) 1");
        E.of(clocks(ONE, 5), "stop(0, 0) 5; spread(0) NEVER");
        E.says(32, "-2: there is none such.");
        E.noDay("spread(%)", "-2");
        E.says(33, "The CLOCK (dead ones, too) whose greatest LATE is least above its least one, of all DAYS (NEVER as 10,000), the first of several.");
        E.of(street(), "steady() 1; stop(1, 2) 15; steady() 2; mend(3, 2) 16; oil(3, 0) 20; steady() 2; undo() 2; undo() 1; oil(3, 0) 20; steady() 3; oil(0, 0) 10; steady() 0");
        E.of(clocks(ONE, 5), "stop(0, 1) 5; steady() 0");
        // Stopped from the first day on it is as steady as one that loses nothing.
        E.of(street(), "stop(0, 0) 10; steady() 0");
        E.of("town days 2 home 0 odds 0;clock at 0 late 0 loses 9 rent 0;clock at 0 late 0 gains 8 rent 0;clock at 0 late 0 loses 8 rent 0;", "steady() 1");
        E.says(33, "NONE: there is none;");
        E.stays("steady() NONE", Lead.BARE);
        E.says(33, "-2: there is no TOWN.");
        E.noTown("steady()", "-2");
        E.says(34, "The mean LATE of a CLOCK of the DAYS on which it strikes, above (what 0; below 0, too), below (1).");
        E.of(street(), "mean(0, 0) 13; mean(0, 1) 1; mean(2, 0) -5; mean(2, 1) 1; stop(2, 2) -4; mean(2, 0) -11; mean(2, 1) 2; mend(0, 2) 16; mean(0, 0) 23; mean(0, 1) 3; mean(3, 0) 18; mean(3, 1) 1");
        E.of("town days 7 home 0 odds 0;clock at 0 late 60 loses 9 rent 0;clock at 0 early 60 gains 9 rent 0;clock at 0 early 3 loses 1 rent 0;", "mean(0, 0) 87; mean(0, 1) 1; mean(1, 0) -87; mean(1, 1) 1; mean(2, 0) 0; mean(2, 1) 1; mend(1, 6) -114; mean(1, 0) -495; mean(1, 1) 7");
        E.says(34, "NEVER, below 1: it strikes on none;");
        E.of(street(), "stop(0, 0) 10; mean(0, 0) NEVER; mean(0, 1) 1; mend(0, 2) NEVER; mean(0, 0) 0; mean(0, 1) 1");
        E.says(34, "-1,000: there are none such.");
        E.noClock("mean(%, 0)", "-1000");
        E.noClock("mean(%, 1)", "-1000");
        E.stays("mean(0, 2) -1000; mean(0, -1) -1000; mean(0, MIN) -1000; mean(0, MAX) -1000; mean(0, 256) -1000", Lead.RICH);
    }

    public static void main(String[] args) throws IOException {
        strikes();
        noons();
        orders();
        waits();
        choruses();
        watches();
        slacks();
        E.close();
    }
}
