/** Readings change nothing, whatever they answer: all that can be seen of an object is the same behind each. */
public final class QuietTest {
    // In each of these the sign % takes all the values of VALUES in turn, the other arguments stay.
    private static final String[] READINGS = {
        "fault(%)", "clock(%, 1)", "clock(0, %)", "late(%, 0)", "late(0, %)", "noon(%)", "counts(%)", "slowest(%)", "order(%, 0)", "order(0, %)",
        "struck(%, 9)", "struck(0, %)", "gap(%)", "costs(%)", "waits()", "worst()", "reign(%)", "rents(%)", "without(%)", "best()", "deals()",
        "price(%)", "chorus(%)", "tolls(%)", "register(%)", "heir(%)", "watch(%)", "alarm(%)", "meet(%, 1)", "meet(0, %)", "passes(%, 1)",
        "passes(0, %)", "slack(%, 0)", "slack(0, %)", "spread(%)", "steady()", "mean(%, 0)", "mean(0, %)", "bury(%)", "buries(%)", "mends(%)",
        "mended(%)", "fewest(%)", "round(%)", "rounds(%, 0)", "rounds(0, %)", "goes(%, 0)", "goes(1, %)", "lodge(%)", "quorum(%, 2)",
        "quorum(0, %)", "law(%)", "middle(%)", "rests(%, 1, 0)", "rests(0, %, 0)", "rest(0, 1, %)", "race(0, 1, %)", "away(%)", "gone(%)",
        "surely(%)", "ask(%)", "under(%)", "floor(%)", "chance(%, 20, 0)", "chance(0, %, 0)", "chance(0, 20, %)", "sure(%, 50)", "sure(0, %)",
        "likely(%)", "drawn(%, 0)", "drawn(5, %)", "luck(%, 2, 0, 0)", "luck(5, %, 0, 0)", "luck(5, 2, %, 0)", "luck(5, 2, 0, %)", "count(%)"};
    private static final String[] VALUES = {"0", "1", "2", "3", "4", "-1", "15", "600", "1000", "MIN", "MAX"};

    private static int asked = 0;
    private static int wrong = 0;

    private static void blame(Lead lead, String call, String what) {
        wrong++;
        System.out.println(call + " of " + lead + ": " + what);
    }

    private static void quiet(Lead lead, String call) {
        asked++;
        String step = call + " 0";
        SlowNoon x = lead.make();
        int first = Edges.ask(x, step);
        int second = Edges.ask(x, step);
        if (first != second) {
            blame(lead, call, "first " + first + ", then " + second);
        }
        String changed = Probe.change(lead, y -> Edges.ask(y, step));
        if (!changed.isEmpty()) {
            blame(lead, call, "changed what was " + changed);
        }
    }

    public static void main(String[] args) {
        for (Lead lead : Lead.values()) {
            for (String reading : READINGS) {
                for (String value : reading.contains("%") ? VALUES : new String[] {""}) {
                    quiet(lead, reading.replace("%", value));
                }
            }
        }
        System.out.println("QuietTest: " + asked + " readings, " + wrong + " wrong");
        if (wrong != 0) {
            System.exit(1);
        }
    }
}
