import java.lang.management.ManagementFactory;

/** Calls make no objects: a run of 512 calls takes no more room than the object had when it was new. */
public final class RoomTest {
    private static final String FULL = "town days 7 home 5 odds 5;"
        + "clock at 0 late 60 loses 9 rent 999;clock at 9 late 50 loses 8 rent 900;clock at 1 late 40 loses 7 rent 800;"
        + "clock at 8 late 30 loses 6 rent 700;clock at 2 early 20 gains 5 rent 600;clock at 7 late 10 loses 4 rent 500;"
        + "trade waits 99;trade waits 99;trade waits 99;trade waits 99;trade waits 99;";

    private static int sum = 0;

    private static void readings(SlowNoon x) {
        for (int day = 0; day < 7; day++) {
            sum += x.noon(day) + x.counts(day) + x.slowest(day) + x.order(day, 2) + x.struck(day, 50) + x.gap(day);
            sum += x.costs(day) + x.chorus(day) + x.tolls(day) + x.register(day) + x.heir(day) + x.spread(day);
            sum += x.round(day) + x.rounds(day, 1) + x.goes(0, day) + x.lodge(day) + x.quorum(day, 3) + x.middle(day);
            sum += x.rests(0, 1, day) + x.rest(0, 1, day) + x.race(0, 1, day) + x.chance(day, 70, 0) + x.sure(day, 90) + x.likely(day);
            sum += x.luck(9, 20, 0, day) + x.late(0, day) + x.slack(1, day);
        }
        for (int clock = 0; clock < 6; clock++) {
            sum += x.clock(clock, 0) + x.reign(clock) + x.rents(clock) + x.without(clock) + x.price(clock);
            sum += x.meet(clock, 0) + x.passes(clock, 0) + x.mean(clock, 0);
        }
        for (int n = 0; n < 4; n++) {
            sum += x.mends(n) + x.mended(n) + x.fault(n) + x.count(n);
        }
        sum += x.waits() + x.worst() + x.best() + x.deals() + x.watch(60) + x.alarm(60) + x.steady() + x.bury(60) + x.buries(60);
        sum += x.fewest(0) + x.law(60) + x.away(1) + x.gone(1) + x.surely(1) + x.ask(1) + x.under(1) + x.floor(1) + x.drawn(7, 0);
    }

    private static void changes(SlowNoon x) {
        sum += x.image(0) + x.mend(0, 1) + x.oil(1, 1) + x.stop(2, 2) + x.enter(3, 3, 1);
        readings(x);
        sum += x.undo() + x.anew() + x.rate(0, 5) + x.image(1) + x.back(0) + x.feed(1, 2, 3, 4, 5) + x.town() + x.end(0) + x.town() + x.back(1);
        sum += x.row(2, 3, 60) + x.write(2, 1, 5) + x.row(3, 3, 60) + x.paste(2, 0, 3, 0, 60);
    }

    public static void main(String[] args) {
        com.sun.management.ThreadMXBean bean = (com.sun.management.ThreadMXBean) ManagementFactory.getThreadMXBean();
        long thread = Thread.currentThread().getId();
        // The first one loads the classes, which takes room of its own.
        sum += new SlowNoon().count(0);
        long start = bean.getThreadAllocatedBytes(thread);
        SlowNoon x = new SlowNoon();
        long made = bean.getThreadAllocatedBytes(thread) - start;
        Due.feed(x, FULL);
        x.town();
        Due.fill(x, 0, 0, 0, 1, 2, 3, 4, 5);
        Due.fill(x, 1, 1, 0, 60, 3, 87);
        changes(x);
        long before = bean.getThreadAllocatedBytes(thread);
        for (int i = 0; i < 5; i++) {
            changes(x);
        }
        long calls = bean.getThreadAllocatedBytes(thread) - before;
        System.out.println("RoomTest: " + made + " bytes for a new object, " + calls + " for all its calls (" + sum + ")");
        if (made > 30000 || calls > 2000) {
            System.exit(1);
        }
    }
}
