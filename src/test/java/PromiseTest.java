import java.util.Arrays;

/** A test for each promise of the document, with answers worked out by hand. */
public final class PromiseTest {
    private static final Due DUE = new Due();
    private static final int NONE = -1;
    private static final int NEVER = 10000;

    // Lates by day: clock 0: 10 13 16; 1: 15 15 15; 2: -6 -5 -4; 3, dead: 20 18 16. Noons: 15 15 16.
    private static final String STREET = "town days 3 home 2 odds 5;"
        + "clock at 0 late 10 loses 3 rent 100;"
        + "clock at 5 late 15 loses 0 rent 50;"
        + "clock at 9 early 6 loses 1 rent 30;"
        + "clock at 4 late 20 gains 2 rent 70 dead;"
        + "trade waits 3; trade waits 4;";
    private static final String BARE = "town days 2 home 0 odds 3;";

    private static void due(int promise, String call, long got, long want) {
        DUE.due(promise, call, got, want);
    }

    private static SlowNoon street() {
        return Due.told(STREET);
    }

    private static void newObject() {
        SlowNoon x = new SlowNoon();
        due(1, "waits()", x.waits(), -2);
        for (int what = 0; what <= 8; what++) {
            due(1, "count(" + what + ")", x.count(what), 0);
        }
        due(1, "back(0)", x.back(0), -6);
        due(1, "town()", x.town(), 0);
    }

    private static void tape() {
        SlowNoon x = new SlowNoon();
        due(2, "feed", x.feed(0x746f776e, 0x20646179, 0x73203120, 0x686f6d65, 0x2037206f), 20);
        due(2, "feed", x.feed(0x64647320, 0x393b2020, 0x20202020, 0x20202020, 0x20202020), 40);
        due(2, "count(7)", x.count(7), 40);
        due(2, "town()", x.town(), 1);
        due(2, "count(1)", x.count(1), 7);
        due(2, "count(2)", x.count(2), 9);
        for (int i = 1; i <= 40; i++) {
            due(2, "feed", x.feed(-1, -1, -1, -1, -1), 20 * i);
        }
        due(2, "feed", x.feed(0, 0, 0, 0, 0), NONE);
        due(2, "count(7)", x.count(7), 800);
        due(3, "end(801)", x.end(801), NONE);
        due(3, "end(-1)", x.end(-1), NONE);
        due(3, "count(7)", x.count(7), 800);
        due(3, "end(800)", x.end(800), 800);
        due(3, "end(781)", x.end(781), 781);
        due(2, "feed", x.feed(0, 0, 0, 0, 0), NONE);
        due(3, "end(780)", x.end(780), 780);
        due(2, "feed", x.feed(0, 0, 0, 0, 0), 800);
        due(3, "end(0)", x.end(0), 0);
        due(3, "end(1)", x.end(1), NONE);
        due(3, "count(7)", x.count(7), 0);
    }

    private static void towns() {
        SlowNoon x = street();
        due(4, "count(6)", x.count(6), 7);
        due(4, "count(7)", x.count(7), 0);
        due(4, "stop(0, 0)", x.stop(0, 0), 10);
        Due.feed(x, "town days 8 home 0 odds 0;");
        due(4, "town()", x.town(), -4);
        due(4, "count(7)", x.count(7), 26);
        due(4, "count(5)", x.count(5), 1);
        due(4, "count(6)", x.count(6), 7);
        Due.feed(x, STREET);
        due(4, "town()", x.town(), 7);
        due(4, "count(5)", x.count(5), 0);
        due(4, "town()", x.town(), 0);
        due(4, "waits()", x.waits(), -2);
        for (int what = 0; what <= 8; what++) {
            due(4, "count(" + what + ") without a town", x.count(what), 0);
        }
        Due.feed(x, " \n ");
        due(4, "town()", x.town(), 0);
        Due.feed(x, "town\ndays007home 0odds 10;clock at 9early 60gains 9rent 999dead;trade waits 99 ; ");
        due(4, "town()", x.town(), 3);
        due(4, "count(0)", x.count(0), 7);
        due(4, "clock(0, 1)", x.clock(0, 1), -60);
        due(4, "clock(0, 4)", x.clock(0, 4), 1);
        due(5, "fault(0)", x.fault(0), 0);
        due(5, "fault(1)", x.fault(1), NONE);
    }

    private static void fault(String text, int what, int place) {
        SlowNoon x = new SlowNoon();
        due(5, "fault(0)", x.fault(0), 0);
        due(5, "fault(1)", x.fault(1), NONE);
        Due.feed(x, text);
        due(5, "town() of " + text, x.town(), -4);
        due(5, "fault(0) of " + text, x.fault(0), what);
        due(5, "fault(1) of " + text, x.fault(1), place);
        due(5, "fault(2)", x.fault(2), NONE);
        due(5, "fault(-1)", x.fault(-1), NONE);
        due(5, "count(7)", x.count(7), Due.bytes(text).length);
        x.end(0);
        x.town();
        due(5, "fault(0) behind a good town()", x.fault(0), 0);
        due(5, "fault(1) behind a good town()", x.fault(1), NONE);
    }

    private static void faults() {
        String town = "town days 1 home 0 odds 0;";
        String clock = "clock at 0 late 1 loses 1 rent 1;";
        String trade = "trade waits 1;";
        fault("Town", 1, 0);
        fault("clock", 1, 0);
        fault(";", 1, 0);
        fault("7", 1, 0);
        fault("town", 1, 4);
        fault("town  ", 1, 6);
        fault("towns", 1, 0);
        fault("down days 1", 1, 0);
        fault("town bays 1", 1, 5);
        fault("town`days 1", 1, 4);
        fault("town{days 1", 1, 4);
        fault("town days 1/", 1, 11);
        fault("town days 1:", 1, 11);
        fault("town days 1 home 0 odds 1 0;", 1, 26);
        fault("town days 0", 2, 10);
        fault("town days 8 home 10", 2, 10);
        fault("town days 99999999999999999999 home", 2, 10);
        fault("town days one", 1, 10);
        fault("town days 1 home 10", 2, 17);
        fault("town days 1 home 0 odds 11;", 2, 24);
        fault("town days 1 home 0 odds 0", 1, 25);
        fault("town days 1 home 0 odds 0 dead", 1, 26);
        fault("town\tdays", 1, 4);
        fault("town days -1", 1, 10);
        fault("town days \u00e9", 1, 10);
        fault(town + "town", 1, 26);
        fault(town + ";", 1, 26);
        fault(town + "days", 1, 26);
        fault(town + "clock at 10", 2, 35);
        fault(town + "clock at 0 late 61", 2, 42);
        fault(town + "clock at 0 early 61", 2, 43);
        fault(town + "clock at 0 slow 61", 1, 37);
        fault(town + "clock at 0 late 1 loses 10", 2, 50);
        fault(town + "clock at 0 late 1 gains 10", 2, 50);
        fault(town + "clock at 0 late 1 loses 1 rent 1000", 2, 57);
        fault(town + "clock at 0 late 1 loses 1 rent 1 dead dead", 1, 64);
        fault(town + "clock at 0 late 1 loses 1 dead;", 1, 52);
        fault(town + "trade waits 100", 2, 38);
        fault(town + "trade waits 1", 1, 39);
        fault(town + clock.repeat(6) + "clock", 3, 26 + 6 * 33);
        fault(town + clock.repeat(6) + trade + "clock at 99", 3, 26 + 6 * 33 + 14);
        fault(town + trade.repeat(5) + "trade", 3, 26 + 5 * 14);
        fault(town + clock.repeat(7) + "$", 3, 26 + 6 * 33);
        fault(town + clock.repeat(6) + "$clock", 1, 26 + 6 * 33);
    }

    /** What was cut off stays out, though the same bytes may still be held behind the tape's end. */
    private static void cuts() {
        String text = "town days 1 home 0 odds 0;clock at 3 late 22 loses 2 rent 77;  trade waits 1;";
        int[][] ends = {{4, 4}, {6, 5}, {60, 60}, {67, 63}};
        for (int[] e : ends) {
            SlowNoon x = new SlowNoon();
            Due.feed(x, text);
            x.end(e[0]);
            due(3, "town() of " + e[0] + " bytes", x.town(), -4);
            due(5, "fault(1) of " + e[0] + " bytes", x.fault(1), e[1]);
        }
        SlowNoon x = new SlowNoon();
        Due.feed(x, text);
        x.end(59);
        x.feed(0x3b202020, 0x20202020, 0x20202020, 0x20202020, 0x20202020);
        due(3, "town()", x.town(), 2);
        due(3, "clock(0, 3)", x.clock(0, 3), 7);
        for (String fill : new String[] {" ", "a", "7", ";"}) {
            Due.feed(x, fill.repeat(800));
            due(4, "town() of 800 times " + fill, x.town(), fill.equals(" ") ? 0 : -4);
            due(5, "fault(1)", x.fault(1), fill.equals(" ") ? NONE : 0);
        }
        Due.feed(x, BARE + " ".repeat(760) + "trade waits 1;");
        due(4, "town() of 800 bytes", x.town(), 2);
        Due.feed(x, BARE + " ".repeat(762) + "trade waits ");
        due(4, "town() of 800 bytes", x.town(), -4);
        due(5, "fault(1)", x.fault(1), 800);
    }

    private static void clocks() {
        SlowNoon x = street();
        int[][] told = {{0, 10, 3, 100, 0}, {5, 15, 0, 50, 0}, {9, -6, 1, 30, 0}, {4, 20, -2, 70, 1}};
        for (int c = 0; c < 4; c++) {
            for (int what = 0; what < 5; what++) {
                due(6, "clock(" + c + ", " + what + ")", x.clock(c, what), told[c][what]);
            }
        }
        due(6, "clock(4, 0)", x.clock(4, 0), -1000);
        due(6, "clock(-1, 0)", x.clock(-1, 0), -1000);
        due(6, "clock(0, 5)", x.clock(0, 5), -1000);
        due(6, "clock(0, -1)", x.clock(0, -1), -1000);
        x.enter(0, 0, 1);
        x.mend(0, 0);
        due(6, "clock(0, 1)", x.clock(0, 1), 10);
        due(6, "clock(0, 4)", x.clock(0, 4), 0);
    }

    private static void lates() {
        SlowNoon x = street();
        int[][] due = {{10, 13, 16}, {15, 15, 15}, {-6, -5, -4}, {20, 18, 16}};
        for (int c = 0; c < 4; c++) {
            for (int d = 0; d < 3; d++) {
                due(7, "late(" + c + ", " + d + ")", x.late(c, d), due[c][d]);
            }
        }
        due(7, "late(0, 3)", x.late(0, 3), -1000);
        due(7, "late(0, -1)", x.late(0, -1), -1000);
        due(7, "late(4, 0)", x.late(4, 0), -1000);
        x.stop(0, 1);
        due(7, "late(0, 0)", x.late(0, 0), 10);
        due(7, "late(0, 1)", x.late(0, 1), NEVER);
        due(7, "late(0, 2)", x.late(0, 2), NEVER);
    }

    private static void noons() {
        SlowNoon x = street();
        due(8, "noon(0)", x.noon(0), 15);
        due(8, "noon(2)", x.noon(2), 16);
        due(8, "noon(3)", x.noon(3), -1000);
        due(8, "noon(-1)", x.noon(-1), -1000);
        due(9, "counts(0)", x.counts(0), 7);
        due(9, "counts(3)", x.counts(3), -2);
        due(10, "slowest(0)", x.slowest(0), 1);
        due(10, "slowest(2)", x.slowest(2), 0);
        due(10, "slowest(3)", x.slowest(3), -2);
        x.enter(0, 0, 1);
        x.enter(1, 0, 1);
        due(8, "noon(0)", x.noon(0), -6);
        due(9, "counts(0)", x.counts(0), 4);
        x.enter(2, 0, 1);
        due(8, "noon(0)", x.noon(0), 0);
        due(9, "counts(0)", x.counts(0), 0);
        due(10, "slowest(0)", x.slowest(0), NONE);
        x.anew();
        x.stop(3, 0);
        due(8, "noon(0) with a dead one stopped", x.noon(0), 15);
        x.stop(2, 0);
        x.stop(1, 1);
        due(8, "noon(0)", x.noon(0), NEVER);
        due(10, "slowest(0)", x.slowest(0), 2);
        due(10, "slowest(1), the first of two stopped", x.slowest(1), 1);
        SlowNoon alike = Due.told("town days 1 home 0 odds 0;" + "clock at 0 late 5 loses 0 rent 0;".repeat(3));
        due(10, "slowest(0) of three alike", alike.slowest(0), 0);
    }

    private static void orders() {
        SlowNoon x = street();
        int[] order = {2, 0, 1, NONE};
        for (int i = 0; i < 4; i++) {
            due(11, "order(0, " + i + ")", x.order(0, i), order[i]);
        }
        due(11, "order(0, -1)", x.order(0, -1), NONE);
        due(11, "order(3, 0)", x.order(3, 0), -2);
        due(11, "order(2, 2)", x.order(2, 2), 0);
        due(12, "struck(0, 10)", x.struck(0, 10), 5);
        due(12, "struck(0, 9)", x.struck(0, 9), 4);
        due(12, "struck(0, -6)", x.struck(0, -6), 4);
        due(12, "struck(0, -7)", x.struck(0, -7), 0);
        due(12, "struck(0, 1000)", x.struck(0, 1000), 7);
        due(12, "struck(0, -1000)", x.struck(0, -1000), 0);
        due(12, "struck(0, 1001)", x.struck(0, 1001), -2);
        due(12, "struck(0, -1001)", x.struck(0, -1001), -2);
        due(12, "struck(3, 0)", x.struck(3, 0), -2);
        x.stop(2, 0);
        due(11, "order(0, 2)", x.order(0, 2), 2);
        due(11, "order(0, 0)", x.order(0, 0), 0);
        due(12, "struck(0, 1000)", x.struck(0, 1000), 3);
        SlowNoon alike = Due.told("town days 1 home 0 odds 0;" + "clock at 0 late 5 loses 0 rent 0;".repeat(3));
        due(11, "order(0, 1) of three alike", alike.order(0, 1), 1);
    }

    private static void gaps() {
        SlowNoon x = street();
        due(13, "gap(0)", x.gap(0), 5);
        due(13, "gap(2)", x.gap(2), 1);
        due(13, "gap(3)", x.gap(3), -2);
        x.stop(2, 0);
        due(13, "gap(0)", x.gap(0), NEVER);
        x.stop(1, 0);
        due(13, "gap(0)", x.gap(0), 0);
        x.anew();
        x.enter(0, 0, 1);
        x.enter(1, 0, 1);
        due(13, "gap(0)", x.gap(0), -6);
        x.enter(2, 0, 1);
        due(13, "gap(0)", x.gap(0), 0);
    }

    private static void costs() {
        SlowNoon x = street();
        due(14, "costs(0)", x.costs(0), 105);
        due(14, "costs(2)", x.costs(2), 112);
        due(14, "costs(3)", x.costs(3), -2);
        due(15, "waits()", x.waits(), 322);
        due(16, "worst()", x.worst(), 2);
        due(17, "reign(0)", x.reign(0), 4);
        due(17, "reign(1)", x.reign(1), 3);
        due(17, "reign(3)", x.reign(3), 0);
        due(17, "reign(4)", x.reign(4), -2);
        due(17, "reign(-1)", x.reign(-1), -2);
        due(18, "rents(0)", x.rents(0), 100);
        due(18, "rents(1)", x.rents(1), 100);
        due(18, "rents(2)", x.rents(2), 0);
        due(18, "rents(4)", x.rents(4), -2);
        due(19, "without(0)", x.without(0), 315);
        due(19, "without(1)", x.without(1), 7 * (10 + 13 + 16));
        due(19, "without(2)", x.without(2), 322);
        due(19, "without(3)", x.without(3), 322);
        due(19, "without(4)", x.without(4), -2);
        due(20, "best()", x.best(), 1);
        due(21, "deals()", x.deals(), 0);
        due(22, "price(0)", x.price(0), 7 - 100);
        due(22, "price(1)", x.price(1), 322 - 273 - 100);
        due(22, "price(2)", x.price(2), 0);
        due(22, "price(4)", x.price(4), -1000000);
        due(22, "price(-1)", x.price(-1), -1000000);
        x.rate(1, 24);
        due(21, "deals()", x.deals(), 2);
        x.rate(1, 25);
        due(21, "deals() at 49 saved, 50 paid", x.deals(), 0);
        x.stop(2, 1);
        due(14, "costs(1)", x.costs(1), 4200);
        due(16, "worst()", x.worst(), 1);
        due(20, "best()", x.best(), 2);
        x.anew();
        x.enter(0, 0, 1);
        x.enter(1, 0, 1);
        due(14, "costs(0) of a noon below 0", x.costs(0), 0);
        due(15, "waits()", x.waits(), 0);
        due(16, "worst()", x.worst(), NONE);
        due(20, "best()", x.best(), NONE);
        SlowNoon one = Due.told("town days 1 home 0 odds 0;clock at 0 late 1 loses 0 rent 1;trade waits 1;");
        due(16, "worst() of a wait of 1", one.worst(), 0);
        due(21, "deals() of 1 saved, 1 paid", one.deals(), 0);
        one.rate(0, 0);
        due(21, "deals() of 1 saved, 0 paid", one.deals(), 1);
        due(20, "best()", one.best(), 0);
        SlowNoon bare = Due.told(BARE);
        due(15, "waits()", bare.waits(), 0);
        due(16, "worst()", bare.worst(), NONE);
        due(21, "deals()", bare.deals(), 0);
        SlowNoon none = new SlowNoon();
        due(16, "worst()", none.worst(), -2);
        due(20, "best()", none.best(), -2);
        due(21, "deals()", none.deals(), -2);
    }

    private static void strikes() {
        SlowNoon x = Due.told("town days 2 home 0 odds 0;clock at 0 late 5 loses 1 rent 0;clock at 0 late 5 loses 0 rent 0;"
            + "clock at 0 late 3 loses 2 rent 0;clock at 0 late 3 loses 2 rent 0 dead;clock at 0 late 5 loses 0 rent 0;");
        due(23, "chorus(0)", x.chorus(0), 3);
        due(23, "chorus(1)", x.chorus(1), 3);
        due(23, "chorus(2)", x.chorus(2), -2);
        due(24, "tolls(0)", x.tolls(0), 2);
        due(24, "tolls(1)", x.tolls(1), 2);
        due(24, "tolls(-1)", x.tolls(-1), -2);
        due(25, "register(0)", x.register(0), 8);
        due(25, "register(2)", x.register(2), -2);
        x.stop(1, 0);
        x.stop(4, 0);
        x.enter(0, 1, 1);
        due(23, "chorus(0)", x.chorus(0), 1);
        due(24, "tolls(0)", x.tolls(0), 2);
        due(24, "tolls(1)", x.tolls(1), 1);
        due(25, "register(1)", x.register(1), 9);
        due(23, "chorus(0)", Due.told(BARE).chorus(0), 0);
        due(24, "tolls(0)", Due.told(BARE).tolls(0), 0);
        due(25, "register(0)", Due.told(BARE).register(0), 0);
    }

    private static void heirs() {
        SlowNoon x = street();
        due(26, "heir(0)", x.heir(0), 0);
        due(26, "heir(2)", x.heir(2), 1);
        due(26, "heir(3)", x.heir(3), -2);
        x.stop(2, 0);
        due(26, "heir(0)", x.heir(0), 1);
        x.enter(0, 0, 1);
        x.enter(1, 0, 1);
        due(26, "heir(0) of one alone", x.heir(0), NONE);
        due(26, "heir(0) of none", Due.told(BARE).heir(0), NONE);
    }

    private static void watches() {
        SlowNoon x = street();
        due(27, "watch(15)", x.watch(15), 3);
        due(27, "watch(16)", x.watch(16), 7);
        due(27, "watch(0)", x.watch(0), 0);
        due(27, "watch(600)", x.watch(600), 7);
        due(27, "watch(601)", x.watch(601), -2);
        due(27, "watch(-1)", x.watch(-1), -2);
        due(27, "watch(0)", new SlowNoon().watch(0), -2);
        due(28, "alarm(15)", x.alarm(15), 2);
        due(28, "alarm(14)", x.alarm(14), 0);
        due(28, "alarm(16)", x.alarm(16), NONE);
        due(28, "alarm(601)", x.alarm(601), -2);
        due(28, "alarm(-1)", x.alarm(-1), -2);
        due(28, "alarm(0)", new SlowNoon().alarm(0), -2);
        x.stop(0, 1);
        due(27, "watch(600)", x.watch(600), 1);
        due(28, "alarm(600)", x.alarm(600), 1);
    }

    private static void meetings() {
        SlowNoon x = street();
        due(29, "meet(0, 3)", x.meet(0, 3), 2);
        due(29, "meet(0, 1)", x.meet(0, 1), NONE);
        due(29, "meet(1, 1)", x.meet(1, 1), 0);
        due(29, "meet(0, 4)", x.meet(0, 4), -2);
        due(29, "meet(-1, 0)", x.meet(-1, 0), -2);
        due(30, "passes(0, 1)", x.passes(0, 1), 4);
        due(30, "passes(1, 0)", x.passes(1, 0), 3);
        due(30, "passes(3, 0)", x.passes(3, 0), 3);
        due(30, "passes(0, 0)", x.passes(0, 0), 0);
        due(30, "passes(4, 0)", x.passes(4, 0), -2);
        x.stop(2, 1);
        due(30, "passes(2, 0)", x.passes(2, 0), 6);
        due(31, "slack(2, 0)", x.slack(2, 0), 21);
        due(31, "slack(1, 0)", x.slack(1, 0), 0);
        due(31, "slack(3, 0)", x.slack(3, 0), 0);
        due(31, "slack(0, 1)", x.slack(0, 1), NEVER);
        due(31, "slack(4, 0)", x.slack(4, 0), -2);
        due(31, "slack(0, 3)", x.slack(0, 3), -2);
    }

    private static void spreads() {
        SlowNoon x = street();
        due(32, "spread(0)", x.spread(0), 21);
        due(32, "spread(2)", x.spread(2), 20);
        due(32, "spread(3)", x.spread(3), -2);
        due(32, "spread(0)", Due.told(BARE).spread(0), 0);
        due(33, "steady()", x.steady(), 1);
        due(33, "steady()", Due.told(BARE).steady(), NONE);
        due(33, "steady()", new SlowNoon().steady(), -2);
        x.stop(1, 2);
        due(32, "spread(2)", x.spread(2), NEVER);
        due(33, "steady()", x.steady(), 2);
        x.anew();
        x.oil(3, 0);
        due(33, "steady(), the first of two", x.steady(), 1);
        x.stop(0, 0);
        x.oil(0, 0);
        due(33, "steady(), one stopped on all", x.steady(), 0);
    }

    private static void means() {
        SlowNoon x = street();
        due(34, "mean(0, 0)", x.mean(0, 0), 13);
        due(34, "mean(0, 1)", x.mean(0, 1), 1);
        x.mend(2, 2);
        due(34, "mean(2, 0)", x.mean(2, 0), -11);
        due(34, "mean(2, 1)", x.mean(2, 1), 3);
        x.stop(2, 2);
        due(34, "mean(2, 0)", x.mean(2, 0), -11);
        due(34, "mean(2, 1)", x.mean(2, 1), 2);
        x.stop(2, 0);
        due(34, "mean(2, 0)", x.mean(2, 0), NEVER);
        due(34, "mean(2, 1)", x.mean(2, 1), 1);
        x.mend(1, 0);
        due(34, "mean(1, 0)", x.mean(1, 0), 0);
        due(34, "mean(1, 1)", x.mean(1, 1), 1);
        due(34, "mean(1, 2)", x.mean(1, 2), -1000);
        due(34, "mean(4, 0)", x.mean(4, 0), -1000);
    }

    private static void burials() {
        SlowNoon x = street();
        int[][] due = {{16, 0, 0}, {15, 1, 1}, {14, 2, 3}, {0, 2, 3}, {600, 0, 0}};
        for (int[] d : due) {
            due(35, "bury(" + d[0] + ")", x.bury(d[0]), d[1]);
            due(36, "buries(" + d[0] + ")", x.buries(d[0]), d[2]);
        }
        for (int m : new int[] {-1, 601}) {
            due(35, "bury(" + m + ")", x.bury(m), -2);
            due(36, "buries(" + m + ")", x.buries(m), -2);
        }
        due(35, "bury(0)", new SlowNoon().bury(0), -2);
        due(36, "buries(0)", new SlowNoon().buries(0), -2);
        x.stop(2, 2);
        due(35, "bury(600)", x.bury(600), 1);
        due(36, "buries(600)", x.buries(600), 4);
    }

    private static void mendings() {
        SlowNoon x = street();
        // One: clock 1 on day 0 leaves 10 13 16; clock 0 on day 2 leaves 15 15 15. Two, both on day 0: 0 3 6.
        due(37, "mends(0)", x.mends(0), 322);
        due(37, "mends(1)", x.mends(1), 273);
        due(37, "mends(2)", x.mends(2), 63);
        due(37, "mends(3)", x.mends(3), 21);
        due(38, "mended(0)", x.mended(0), NONE);
        due(38, "mended(1)", x.mended(1), 1);
        due(38, "mended(2)", x.mended(2), 0);
        due(38, "mended(3)", x.mended(3), 0);
        for (int n : new int[] {-1, 4}) {
            due(37, "mends(" + n + ")", x.mends(n), -2);
            due(38, "mended(" + n + ")", x.mended(n), -2);
        }
        due(37, "mends(0)", new SlowNoon().mends(0), -2);
        due(38, "mended(0)", new SlowNoon().mended(0), -2);
        due(39, "fewest(16)", x.fewest(16), 0);
        due(39, "fewest(15)", x.fewest(15), 1);
        due(39, "fewest(6)", x.fewest(6), 2);
        due(39, "fewest(3)", x.fewest(3), 3);
        due(39, "fewest(2)", x.fewest(2), NONE);
        due(39, "fewest(-1)", x.fewest(-1), -2);
        due(39, "fewest(601)", x.fewest(601), -2);
        due(39, "fewest(0)", new SlowNoon().fewest(0), -2);
        x.stop(2, 1);
        due(38, "mended(1) of one that stopped", x.mended(1), 12);
        due(39, "fewest(600)", x.fewest(600), 1);
        due(37, "mends(3)", Due.told(BARE).mends(3), 0);
        due(38, "mended(3)", Due.told(BARE).mended(3), NONE);
        SlowNoon late = Due.told("town days 2 home 0 odds 0;clock at 0 late 9 loses 0 rent 0;trade waits 1;");
        late.mend(0, 1);
        due(38, "mended(2): the second is not wanted", late.mended(2), 0);
        due(37, "mends(2)", late.mends(2), 0);
    }

    private static void rounds() {
        SlowNoon x = street();
        // From 2: 0 by 10, 5 by 15, 9 by 19; or 9 by 7, 5 by 15, 0 by 20; or 5 at 15, ..
        due(40, "round(0)", x.round(0), 19);
        int[] way = {0, 1, 2, NONE};
        for (int i = 0; i < 4; i++) {
            due(41, "rounds(0, " + i + ")", x.rounds(0, i), way[i]);
        }
        due(41, "rounds(0, -1)", x.rounds(0, -1), NONE);
        due(41, "rounds(3, 0)", x.rounds(3, 0), -2);
        due(40, "round(3)", x.round(3), -2);
        // From 2 on day 2: 9 by 7, 5 by 15, 0 by 20 is soonest.
        due(40, "round(2)", x.round(2), 20);
        due(41, "rounds(2, 0)", x.rounds(2, 0), 2);
        // From 8: 9 by 1, 0 by 10, 5 by 15; from 7 it is 16.
        due(43, "lodge(0)", x.lodge(0), 8);
        due(43, "lodge(3)", x.lodge(3), -2);
        due(43, "lodge(-1)", x.lodge(-1), -2);
        Due.fill(x, 0, 0, 2, 1, 0);
        due(42, "goes(0, 0)", x.goes(0, 0), 20);
        Due.fill(x, 0, 3, 1, 0, 2);
        due(42, "goes(0, 0)", x.goes(0, 0), 29);
        due(42, "goes(1, 0)", x.goes(1, 0), -6);
        due(42, "goes(4, 0)", x.goes(4, 0), -2);
        due(42, "goes(1, 3)", x.goes(1, 3), -2);
        Due.fill(x, 0, 3, 1, 0);
        due(42, "goes of too few", x.goes(0, 0), -2);
        Due.fill(x, 0, 3, 1, 0, 1);
        due(42, "goes of one twice", x.goes(0, 0), -2);
        Due.fill(x, 0, 3, 1, 0, 2, 3);
        due(42, "goes of a dead one", x.goes(0, 0), -2);
        Due.fill(x, 0, 3, 1, 0, 2 + (1L << 32));
        due(42, "goes of a huge one", x.goes(0, 0), -2);
        due(42, "goes(1, 0) without a town", new SlowNoon().goes(1, 0), -2);
        x.stop(1, 0);
        Due.fill(x, 0, 3, 1, 0, 2);
        due(40, "round(0)", x.round(0), NEVER);
        due(41, "rounds(0, 0)", x.rounds(0, 0), NONE);
        due(42, "goes(0, 0)", x.goes(0, 0), NEVER);
        due(43, "lodge(0)", x.lodge(0), 0);
        SlowNoon bare = Due.told(BARE);
        bare.row(0, 0, 0);
        due(40, "round(0)", bare.round(0), 0);
        due(41, "rounds(0, 0)", bare.rounds(0, 0), NONE);
        due(42, "goes(0, 0)", bare.goes(0, 0), 0);
        SlowNoon far = Due.told("town days 1 home 0 odds 0;clock at 7 late 1 loses 0 rent 0;clock at 4 early 1 loses 0 rent 0;");
        due(40, "round(0)", far.round(0), 7);
        due(41, "rounds(0, 0)", far.rounds(0, 0), 1);
        due(43, "lodge(0)", far.lodge(0), 4);
    }

    private static void quorums() {
        SlowNoon x = street();
        due(44, "quorum(0, 1)", x.quorum(0, 1), -6);
        due(44, "quorum(0, 2)", x.quorum(0, 2), 10);
        due(44, "quorum(0, 3)", x.quorum(0, 3), 15);
        due(44, "quorum(0, 4)", x.quorum(0, 4), NEVER);
        due(44, "quorum(0, 6)", x.quorum(0, 6), NEVER);
        due(44, "quorum(0, 7)", x.quorum(0, 7), -2);
        due(44, "quorum(0, 0)", x.quorum(0, 0), -2);
        due(44, "quorum(3, 1)", x.quorum(3, 1), -2);
        due(45, "law(16)", x.law(16), 3);
        due(45, "law(15)", x.law(15), 2);
        due(45, "law(14)", x.law(14), 1);
        due(45, "law(600)", x.law(600), 3);
        due(45, "law(601)", x.law(601), -2);
        due(45, "law(-1)", x.law(-1), -2);
        due(45, "law(0)", new SlowNoon().law(0), -2);
        SlowNoon first = Due.told("town days 2 home 0 odds 0;clock at 0 late 9 gains 9 rent 0;clock at 0 late 1 loses 0 rent 0;");
        due(45, "law(5), day 0 the worse", first.law(5), 1);
        due(45, "law(600)", Due.told(BARE).law(600), 0);
        due(46, "middle(0)", x.middle(0), 10);
        due(46, "middle(3)", x.middle(3), -1000);
        x.enter(2, 1, 1);
        due(46, "middle(1) of two", x.middle(1), 13);
        x.stop(0, 0);
        due(44, "quorum(0, 2)", x.quorum(0, 2), 15);
        due(44, "quorum(0, 3)", x.quorum(0, 3), NEVER);
        due(46, "middle(0)", x.middle(0), 15);
        x.stop(1, 0);
        due(46, "middle(0)", x.middle(0), NEVER);
        due(46, "middle(0)", Due.told(BARE).middle(0), NEVER);
    }

    private static void races() {
        SlowNoon x = street();
        // Day 0: clock 0 is last by 5 more, then clock 1 by 1 more, which is too many for clock 0.
        due(47, "rests(0, 1, 0)", x.rests(0, 1, 0), 0);
        due(48, "rest(0, 1, 0)", x.rest(0, 1, 0), NONE);
        due(49, "race(0, 1, 0)", x.race(0, 1, 0), NEVER);
        // Clock 0, the first of two alike, is last by 2 more; that is its rent, so it may hang them or not.
        SlowNoon two = Due.told("town days 1 home 0 odds 0;clock at 0 late 10 loses 0 rent 20;clock at 0 late 12 loses 0 rent 10;");
        due(47, "rests(0, 1, 0)", two.rests(0, 1, 0), 2);
        due(48, "rest(0, 1, 0)", two.rest(0, 1, 0), 0);
        due(49, "race(0, 1, 0)", two.race(0, 1, 0), 12);
        two.rate(0, 30);
        due(47, "rests(0, 1, 0)", two.rests(0, 1, 0), 1);
        due(48, "rest(0, 1, 0)", two.rest(0, 1, 0), 20);
        due(48, "rest(1, 0, 0)", two.rest(1, 0, 0), 2);
        due(49, "race(0, 1, 0)", two.race(0, 1, 0), 12);
        // The second of two alike is last by 1 more than the first, so here the noons of the rests are unlike.
        SlowNoon unlike = Due.told("town days 1 home 0 odds 0;clock at 0 late 11 loses 0 rent 0;clock at 0 late 10 loses 0 rent 20;");
        due(47, "rests(0, 1, 0)", unlike.rests(0, 1, 0), 2);
        due(49, "race(0, 1, 0)", unlike.race(0, 1, 0), 12);
        due(47, "rests(4, 0, 0)", x.rests(4, 0, 0), -2);
        due(47, "rests(0, -1, 0)", x.rests(0, -1, 0), -2);
        due(47, "rests(0, 0, 0)", x.rests(0, 0, 0), -2);
        due(47, "rests(0, 3, 0)", x.rests(0, 3, 0), -2);
        due(47, "rests(0, 4, 0)", x.rests(0, 4, 0), -2);
        due(48, "rest(0, 1, 3)", x.rest(0, 1, 3), -2);
        due(49, "race(3, 1, 0)", x.race(3, 1, 0), -2);
        x.stop(2, 0);
        due(47, "rests(0, 2, 0)", x.rests(0, 2, 0), -2);
        due(47, "rests(0, 1, 0)", x.rests(0, 1, 0), 1);
        due(49, "race(0, 1, 0) with another stopped", x.race(0, 1, 0), NEVER);
    }

    private static void seen() {
        SlowNoon x = street();
        Due.fill(x, 0, 1, 0, 10);
        // Noon 10 on day 0: clock 1 was away, clock 2 or not.
        due(50, "away(0)", x.away(0), 2);
        due(51, "gone(0)", x.gone(0), 2);
        due(52, "surely(0)", x.surely(0), 2);
        due(53, "ask(0)", x.ask(0), 2);
        Due.fill(x, 1, 1, 0, 10, 2, 15);
        due(50, "away(1)", x.away(1), 0);
        due(51, "gone(1)", x.gone(1), NONE);
        due(52, "surely(1)", x.surely(1), NONE);
        due(53, "ask(1)", x.ask(1), NONE);
        Due.fill(x, 1, 1, 0, -6, 1, -5);
        due(50, "away(1)", x.away(1), 1);
        due(51, "gone(1)", x.gone(1), 3);
        due(53, "ask(1)", x.ask(1), NONE);
        Due.fill(x, 2, 1);
        due(50, "away of an empty row", x.away(2), 8);
        due(51, "gone of an empty row", x.gone(2), 0);
        due(52, "surely of an empty row", x.surely(2), 0);
        due(53, "ask of an empty row", x.ask(2), 0);
        due(54, "under of an empty row", x.under(2), 610);
        due(55, "floor of an empty row", x.floor(2), 0);
        // One more clock: 15 on day 0 and 20 on day 1: late 11 loses 9 .. late 15 loses 5.
        Due.fill(x, 1, 1, 0, 15, 1, 20);
        due(54, "under(1)", x.under(1), 5);
        due(55, "floor(1)", x.floor(1), 119);
        Due.fill(x, 1, 1, 0, 14);
        due(54, "under(1)", x.under(1), 0);
        due(55, "floor(1)", x.floor(1), NONE);
        badRows(x);
        x.stop(1, 0);
        Due.fill(x, 1, 1, 0, 15);
        due(54, "under(1) of a stopped one", x.under(1), 0);
        SlowNoon bare = Due.told(BARE);
        Due.fill(bare, 0, 1, 1, 7);
        due(50, "away(0)", bare.away(0), 0);
        due(54, "under(0)", bare.under(0), 8);
        due(55, "floor(0)", bare.floor(0), 7);
        Due.fill(bare, 0, 1, 1, 0);
        due(50, "away(0): no clock, noon 0", bare.away(0), 1);
        due(50, "away(0) without a town", new SlowNoon().away(0), -2);
    }

    private static void seenCodes(SlowNoon x, String row, int slot, int want) {
        due(50, "away of " + row, x.away(slot), want);
        due(51, "gone of " + row, x.gone(slot), want);
        due(52, "surely of " + row, x.surely(slot), want);
        due(53, "ask of " + row, x.ask(slot), want);
        due(54, "under of " + row, x.under(slot), want);
        due(55, "floor of " + row, x.floor(slot), want);
    }

    private static void badRows(SlowNoon x) {
        seenCodes(x, "nothing", 3, -6);
        seenCodes(x, "no slot", 4, -2);
        seenCodes(x, "no slot", -1, -2);
        for (long[] row : new long[][] {{0}, {0, 10, 1}, {3, 10}, {-1, 10}, {0, 1001}, {0, -1001}, {1L << 32, 10}}) {
            Due.fill(x, 0, 3, row);
            seenCodes(x, Arrays.toString(row), 0, -2);
        }
        Due.fill(x, 0, 3, 0, 1000);
        due(50, "away at 1,000", x.away(0), 0);
        Due.fill(x, 0, 3, 0, -1000);
        due(50, "away at -1,000", x.away(0), 0);
    }

    private static void sleeping() {
        SlowNoon x = street();
        // Day 0, a half each: 10 or 40, 15 or 45, -6 or 24.
        int[][] due = {{14, 0, 1}, {15, 1, 8}, {23, 1, 8}, {24, 1, 4}, {40, 1, 2}, {45, 1, 1}, {600, 1, 1}};
        for (int[] d : due) {
            due(56, "chance(0, " + d[0] + ", 0)", x.chance(0, d[0], 0), d[1]);
            due(56, "chance(0, " + d[0] + ", 1)", x.chance(0, d[0], 1), d[2]);
        }
        due(56, "chance(0, 601, 0)", x.chance(0, 601, 0), -2);
        due(56, "chance(0, -1, 0)", x.chance(0, -1, 0), -2);
        due(56, "chance(0, 0, 2)", x.chance(0, 0, 2), -2);
        due(56, "chance(3, 0, 0)", x.chance(3, 0, 0), -2);
        due(57, "sure(0, 0)", x.sure(0, 0), 0);
        due(57, "sure(0, 12)", x.sure(0, 12), 15);
        due(57, "sure(0, 13)", x.sure(0, 13), 24);
        due(57, "sure(0, 25)", x.sure(0, 25), 24);
        due(57, "sure(0, 26)", x.sure(0, 26), 40);
        due(57, "sure(0, 100)", x.sure(0, 100), 45);
        due(57, "sure(0, 101)", x.sure(0, 101), -2);
        due(57, "sure(0, -1)", x.sure(0, -1), -2);
        due(57, "sure(3, 0)", x.sure(3, 0), -2);
        // Last: 1, if it sleeps (1/2) or none does (1/8); 0, if it does and 1 does not (1/4).
        due(58, "likely(0)", x.likely(0), 1);
        due(58, "likely(3)", x.likely(3), -2);
        due(58, "likely(0)", Due.told(BARE).likely(0), NONE);
        due(56, "chance(0, 0, 0) of none", Due.told(BARE).chance(0, 0, 0), 1);
        x.stop(2, 0);
        due(56, "chance(0, 600, 0)", x.chance(0, 600, 0), 0);
        due(56, "chance(0, 600, 1)", x.chance(0, 600, 1), 1);
        due(57, "sure(0, 1)", x.sure(0, 1), NONE);
        due(57, "sure(0, 0)", x.sure(0, 0), 0);
        due(58, "likely(0)", x.likely(0), 2);
        SlowNoon two = Due.told("town days 1 home 0 odds 4;clock at 0 late 0 loses 0 rent 0;clock at 0 late 1 loses 0 rent 0;clock at 0 late 2 loses 0 rent 0;");
        // 2: 4/10 and 216/1000 more; 1: 24/100; 0: 144/1000.
        due(58, "likely(0)", two.likely(0), 2);
        due(56, "chance(0, 1, 0)", two.chance(0, 1, 0), 0);
        due(56, "chance(0, 2, 0)", two.chance(0, 2, 0), 27);
        due(56, "chance(0, 2, 1)", two.chance(0, 2, 1), 125);
    }

    private static void acts() {
        SlowNoon x = street();
        due(59, "mend(0, 1)", x.mend(0, 1), 13);
        due(59, "late(0, 0)", x.late(0, 0), 10);
        due(59, "late(0, 1)", x.late(0, 1), 0);
        due(59, "late(0, 2)", x.late(0, 2), 3);
        due(60, "oil(0, 0)", x.oil(0, 0), 10);
        due(60, "late(0, 2), mended behind it", x.late(0, 2), 3);
        due(60, "oil(0, 1)", x.oil(0, 1), 0);
        due(60, "late(0, 2)", x.late(0, 2), 0);
        due(60, "oil(2, 1)", x.oil(2, 1), -5);
        due(60, "late(2, 1)", x.late(2, 1), -5);
        due(60, "late(2, 2)", x.late(2, 2), -5);
        due(61, "stop(2, 1)", x.stop(2, 1), -5);
        due(61, "late(2, 0)", x.late(2, 0), -6);
        due(61, "late(2, 2)", x.late(2, 2), NEVER);
        due(61, "stop(2, 2)", x.stop(2, 2), NEVER);
        due(59, "mend(2, 2)", x.mend(2, 2), NEVER);
        due(59, "late(2, 2)", x.late(2, 2), 0);
        due(59, "late(2, 1)", x.late(2, 1), NEVER);
        due(61, "stop(2, 2) behind it", x.stop(2, 2), 0);
        due(61, "late(2, 2)", x.late(2, 2), NEVER);
        due(63, "count(5)", x.count(5), 8);
        due(63, "undo()", x.undo(), 7);
        due(63, "late(2, 2)", x.late(2, 2), 0);
        due(64, "anew()", x.anew(), 7);
        due(64, "anew()", x.anew(), 0);
        due(64, "late(0, 1)", x.late(0, 1), 13);
        due(63, "undo()", x.undo(), -5);
        entries(x);
        badActs();
    }

    private static void entries(SlowNoon x) {
        due(62, "enter(0, 2, 0)", x.enter(0, 2, 0), 0);
        due(62, "enter(0, 1, 1)", x.enter(0, 1, 1), 0);
        due(62, "register(0)", x.register(0), 8);
        due(62, "register(1)", x.register(1), 9);
        due(62, "register(2)", x.register(2), 8);
        due(62, "enter(0, 1, 1)", x.enter(0, 1, 1), 1);
        due(62, "enter(0, 1, 0)", x.enter(0, 1, 0), 1);
        due(62, "enter(3, 0, 0)", x.enter(3, 0, 0), 1);
        due(62, "register(1)", x.register(1), 0);
        due(62, "noon(0)", x.noon(0), 20);
        due(62, "enter(0, 0, 2)", x.enter(0, 0, 2), -2);
        due(62, "enter(0, 0, -1)", x.enter(0, 0, -1), -2);
        due(62, "enter(4, 0, 1)", x.enter(4, 0, 1), -2);
        due(62, "enter(0, 3, 1)", x.enter(0, 3, 1), -2);
        due(62, "count(5)", x.count(5), 5);
    }

    private static void badActs() {
        SlowNoon x = street();
        for (int i = 0; i < 40; i++) {
            x.mend(1, 2);
        }
        due(59, "mend(0, 0)", x.mend(0, 0), -5);
        due(60, "oil(0, 0)", x.oil(0, 0), -5);
        due(61, "stop(0, 0)", x.stop(0, 0), -5);
        due(62, "enter(0, 0, 1)", x.enter(0, 0, 1), -5);
        due(59, "mend(4, 0)", x.mend(4, 0), -1000);
        due(60, "oil(0, 3)", x.oil(0, 3), -1000);
        due(61, "stop(-1, 0)", x.stop(-1, 0), -1000);
        due(62, "enter(0, 0, 2)", x.enter(0, 0, 2), -2);
        due(63, "undo()", x.undo(), 39);
        due(59, "mend(0, 0)", x.mend(0, 0), 10);
        due(64, "anew()", x.anew(), 40);
        due(63, "undo()", new SlowNoon().undo(), -2);
        due(64, "anew()", new SlowNoon().anew(), -2);
        due(59, "mend(0, 0)", new SlowNoon().mend(0, 0), -1000);
    }

    private static void draws() {
        // From 0: x is 12345, 1406932606, 654583775, 1449466924, 229283573; draws: 0, 8, 8, 7, 8.
        SlowNoon x = Due.told("town days 2 home 0 odds 8;clock at 0 late 1 loses 0 rent 0;clock at 0 late 2 loses 0 rent 0;trade waits 2;");
        due(65, "drawn(0, 0): 31 and 32", x.drawn(0, 0), 2 * (31 + 32));
        due(65, "drawn(0, 1)", x.drawn(0, 1), 3);
        x.stop(0, 1);
        due(65, "drawn(0, 0): 31 and none", x.drawn(0, 0), 2 * (31 + 600));
        due(65, "drawn(0, 1)", x.drawn(0, 1), 1);
        x.enter(0, 1, 1);
        due(65, "drawn(0, 0): 31 and 2", x.drawn(0, 0), 2 * (31 + 2));
        for (int seed : new int[] {-1, 2000000001}) {
            due(65, "drawn(" + seed + ", 0)", x.drawn(seed, 0), -2);
            due(66, "luck(" + seed + ", 1, 0, 0)", x.luck(seed, 1, 0, 0), -2);
        }
        due(65, "drawn(0, 2)", x.drawn(0, 2), -2);
        due(65, "drawn(0, -1)", x.drawn(0, -1), -2);
        due(65, "drawn(0, 0)", new SlowNoon().drawn(0, 0), -2);
        x.anew();
        due(66, "luck(0, 1, 0, 0)", x.luck(0, 1, 0, 0), 1);
        due(66, "luck(0, 1, 1, 0)", x.luck(0, 1, 1, 0), 0);
        due(66, "luck(0, 1, 1, 1)", x.luck(0, 1, 1, 1), 1);
        int both = x.luck(7, 20, 0, 1) + x.luck(7, 20, 1, 1);
        due(66, "luck of both", both, 20);
        int first = x.luck(7, 10, 0, 0);
        due(66, "luck in two parts", first + x.luck(17, 10, 0, 0), x.luck(7, 20, 0, 0));
        int one = 0;
        for (int seed = 40; seed < 45; seed++) {
            one += x.luck(seed, 1, 1, 0);
        }
        due(66, "luck(40, 5, 1, 0), one by one", x.luck(40, 5, 1, 0), one);
        due(66, "luck(0, 0, 0, 0)", x.luck(0, 0, 0, 0), -2);
        due(66, "luck(0, 21, 0, 0)", x.luck(0, 21, 0, 0), -2);
        due(66, "luck(0, 1, 2, 0)", x.luck(0, 1, 2, 0), -2);
        due(66, "luck(0, 1, 0, 2)", x.luck(0, 1, 0, 2), -2);
        due(66, "luck at the last seed", x.luck(2000000000, 20, 0, 0) + x.luck(2000000000, 20, 1, 0), 20);
    }

    private static void rates() {
        SlowNoon x = street();
        due(67, "rate(0, 999)", x.rate(0, 999), 100);
        due(67, "rate(0, 0)", x.rate(0, 0), 999);
        due(67, "clock(0, 3)", x.clock(0, 3), 0);
        due(67, "rents(0)", x.rents(0), 0);
        due(67, "rate(0, 1000)", x.rate(0, 1000), -2);
        due(67, "rate(0, -1)", x.rate(0, -1), -2);
        due(67, "rate(4, 1)", x.rate(4, 1), -2);
        x.mend(0, 0);
        due(67, "rate(0, 1)", x.rate(0, 1), -5);
        due(67, "rate(4, 1)", x.rate(4, 1), -2);
        x.undo();
        due(67, "rate(0, 1)", x.rate(0, 1), 0);
        x.row(2, 0, 0);
        x.feed(0, 0, 0, 0, 0);
        int[] counts = {3, 2, 5, 4, 2, 0, 7, 20, 1};
        for (int what = 0; what < 9; what++) {
            due(68, "count(" + what + ")", x.count(what), counts[what]);
        }
        due(68, "count(9)", x.count(9), NONE);
        due(68, "count(-1)", x.count(-1), NONE);
    }

    private static void images() {
        SlowNoon x = street();
        due(70, "back(1)", x.back(1), -6);
        due(69, "image(1)", x.image(1), 0);
        x.rate(0, 7);
        x.stop(0, 0);
        due(69, "image(2)", x.image(2), 0);
        x.undo();
        Due.feed(x, BARE);
        x.town();
        due(70, "back(1)", x.back(1), 0);
        due(70, "clock(0, 3)", x.clock(0, 3), 100);
        due(70, "late(0, 0)", x.late(0, 0), 10);
        due(70, "count(6)", x.count(6), 7);
        due(70, "back(2)", x.back(2), 0);
        due(70, "count(5)", x.count(5), 1);
        due(70, "late(0, 0)", x.late(0, 0), NEVER);
        due(70, "clock(0, 3)", x.clock(0, 3), 7);
        x.anew();
        due(70, "back(2)", x.back(2), 0);
        due(70, "count(5)", x.count(5), 1);
        for (int k : new int[] {-1, 3}) {
            due(69, "image(" + k + ")", x.image(k), -2);
            due(70, "back(" + k + ")", x.back(k), -2);
        }
        SlowNoon none = new SlowNoon();
        due(69, "image(0) of no town", none.image(0), 0);
        Due.feed(none, BARE);
        none.town();
        due(70, "back(0) to no town", none.back(0), 0);
        due(70, "waits()", none.waits(), -2);
    }

    private static void rows() {
        SlowNoon x = Due.told(BARE);
        due(71, "row(0, 0, 60)", x.row(0, 0, 60), 0);
        due(71, "row(0, 0, 61)", x.row(0, 0, 61), -2);
        due(71, "row(0, 4, 1)", x.row(0, 4, 1), -2);
        due(71, "row(0, -1, 1)", x.row(0, -1, 1), -2);
        due(71, "row(4, 0, 1)", x.row(4, 0, 1), -2);
        due(71, "row(-1, 0, 1)", x.row(-1, 0, 1), -2);
        due(71, "row(0, 0, -1)", x.row(0, 0, -1), -3);
        due(71, "row(4, 0, -1)", x.row(4, 0, -1), -2);
        due(72, "write(0, 59, 1)", x.write(0, 59, 1), 0);
        due(72, "write(0, 60, 1)", x.write(0, 60, 1), -7);
        due(72, "write(0, -1, 1)", x.write(0, -1, 1), -7);
        due(72, "write(1, 0, 1)", x.write(1, 0, 1), -6);
        due(72, "write(4, 0, 1)", x.write(4, 0, 1), -2);
        due(71, "row(0, 0, 60) anew", x.row(0, 0, 60), 0);
        due(71, "away(0) of all 0", x.away(0), 1);
        // A number that is cut to 0 by its width leaves a row of noons of 0.
        for (int width = 0; width < 3; width++) {
            x.row(1, width, 2);
            due(72, "write", x.write(1, 1, 1L << (8 << width)), 0);
            due(72, "away(1) of a cut number", x.away(1), 1);
            x.write(1, 1, (1L << (8 << width)) - 1);
            due(72, "away(1) of -1", x.away(1), 0);
        }
        x.row(1, 3, 2);
        x.write(1, 1, 1L << 32);
        due(72, "away(1) of a number that is not cut", x.away(1), -2);
        x.row(1, 0, 2);
        x.write(1, 1, 255 + 8);
        due(72, "floor(1) of 7", x.floor(1), 70);
    }

    private static void pastes() {
        SlowNoon x = Due.told(BARE);
        Due.fill(x, 0, 1, 0, 5, 0, 9);
        x.row(1, 1, 3);
        x.row(2, 2, 3);
        due(73, "paste(0, 0, 3, 0, 1)", x.paste(0, 0, 3, 0, 1), -6);
        due(73, "paste(3, 0, 0, 0, 1)", x.paste(3, 0, 0, 0, 1), -6);
        due(73, "paste(3, 0, 4, 0, 1)", x.paste(3, 0, 4, 0, 1), -2);
        due(73, "paste(-1, 0, 0, 0, 1)", x.paste(-1, 0, 0, 0, 1), -2);
        due(73, "paste(0, 0, 2, 0, 9)", x.paste(0, 0, 2, 0, 9), -8);
        due(73, "paste(0, 0, 1, 0, 4)", x.paste(0, 0, 1, 0, 4), -7);
        due(73, "paste(0, 2, 1, 0, 3)", x.paste(0, 2, 1, 0, 3), -7);
        due(73, "paste(0, -1, 1, 0, 1)", x.paste(0, -1, 1, 0, 1), -7);
        due(73, "paste(0, 0, 1, -1, 1)", x.paste(0, 0, 1, -1, 1), -7);
        due(73, "paste(0, 0, 1, 0, -1)", x.paste(0, 0, 1, 0, -1), -7);
        due(73, "paste(0, 1, 1, 1, MAX)", x.paste(0, 1, 1, 1, Integer.MAX_VALUE), -7);
        due(73, "paste(0, 4, 1, 3, 0)", x.paste(0, 4, 1, 3, 0), 0);
        due(73, "floor(0) as it was", x.floor(0), NONE);
        due(73, "paste(0, 0, 0, 2, 2)", x.paste(0, 0, 0, 2, 2), 0);
        due(73, "floor(0)", x.floor(0), 50);
        // One place on, over itself: 0 5 0 5 becomes 0 0 5 0.
        due(73, "paste(0, 0, 0, 1, 3)", x.paste(0, 0, 0, 1, 3), 0);
        due(73, "away(0): day 5", x.away(0), -2);
        due(73, "paste(0, 0, 1, 0, 2)", x.paste(0, 0, 1, 0, 2), 0);
        x.row(1, 1, 2);
        due(73, "paste(0, 1, 1, 0, 2)", x.paste(0, 1, 1, 0, 2), 0);
        due(73, "floor(1)", x.floor(1), 50);
    }

    public static void main(String[] args) {
        newObject();
        tape();
        towns();
        faults();
        cuts();
        clocks();
        lates();
        noons();
        orders();
        gaps();
        costs();
        strikes();
        heirs();
        watches();
        meetings();
        spreads();
        means();
        burials();
        mendings();
        rounds();
        quorums();
        races();
        seen();
        sleeping();
        acts();
        draws();
        rates();
        images();
        rows();
        pastes();
        DUE.close("PromiseTest");
    }
}
