import java.util.ArrayList;
import java.util.EnumMap;
import java.util.List;
import java.util.Map;
import java.util.function.Consumer;

/**
 * All that can be seen of an object, by runs of calls behind each of which the object is of no more use:
 * two objects that are led alike, one of them past a call more, show whether that call has changed something.
 */
final class Probe {
    private final SlowNoon x;
    private final List<String> seen = new ArrayList<>();

    private Probe(SlowNoon x) {
        this.x = x;
    }

    private static final int WAYS = 6;
    private static final Map<Lead, List<List<String>>> KNOWN = new EnumMap<>(Lead.class);

    /** What a call has changed of an object led so; empty, if nothing. */
    static String change(Lead lead, Consumer<SlowNoon> call) {
        List<List<String>> before = KNOWN.computeIfAbsent(lead, l -> look(l, y -> { }));
        List<List<String>> behind = look(lead, call);
        for (int way = 0; way < WAYS; way++) {
            for (int i = 0; i < before.get(way).size(); i++) {
                if (i >= behind.get(way).size() || !before.get(way).get(i).equals(behind.get(way).get(i))) {
                    return before.get(way).get(i);
                }
            }
        }
        return "";
    }

    private static List<List<String>> look(Lead lead, Consumer<SlowNoon> call) {
        List<List<String>> all = new ArrayList<>();
        for (int way = 0; way < WAYS; way++) {
            SlowNoon x = lead.make();
            call.accept(x);
            Probe probe = new Probe(x);
            probe.look(way);
            all.add(probe.seen);
        }
        return all;
    }

    private void look(int way) {
        switch (way) {
            case 0: street(); break;
            case 1: acts(); break;
            case 2: images(); break;
            case 3: row(0, 3); row(1, 3); row(2, 3); break;
            case 4: row(3, 0); break;
            default: tape(); break;
        }
    }

    private int note(String call, int answer) {
        seen.add(call + " " + answer);
        return answer;
    }

    private void counts() {
        for (int what = 0; what <= 8; what++) {
            note("count(" + what + ")", x.count(what));
        }
        note("fault(0)", x.fault(0));
        note("fault(1)", x.fault(1));
    }

    private void lates() {
        for (int c = 0; c < x.count(3); c++) {
            for (int what = 0; what < 5; what++) {
                note("clock(" + c + ", " + what + ")", x.clock(c, what));
            }
            for (int d = 0; d < x.count(0); d++) {
                note("late(" + c + ", " + d + ")", x.late(c, d));
            }
        }
        for (int d = 0; d < x.count(0); d++) {
            note("counts(" + d + ")", x.counts(d));
        }
        note("waits()", x.waits());
    }

    private void street() {
        counts();
        lates();
        for (int d = 0; d < x.count(0); d++) {
            note("noon(" + d + ")", x.noon(d));
            note("round(" + d + ")", x.round(d));
            note("lodge(" + d + ")", x.lodge(d));
            note("chance(" + d + ", 20, 0)", x.chance(d, 20, 0));
            note("rests(0, 1, " + d + ")", x.rests(0, 1, d));
        }
        note("mends(2)", x.mends(2));
        note("mended(2)", x.mended(2));
        note("drawn(3, 0)", x.drawn(3, 0));
        for (int slot = 0; slot < 4; slot++) {
            note("goes(" + slot + ", 0)", x.goes(slot, 0));
            note("away(" + slot + ")", x.away(slot));
            note("floor(" + slot + ")", x.floor(slot));
        }
    }

    private void acts() {
        for (int i = 0; i < 41 && note("undo()", x.undo()) >= 0; i++) {
            lateSums();
        }
        lates();
    }

    private void lateSums() {
        int sum = 0;
        for (int c = 0; c < x.count(3); c++) {
            for (int d = 0; d < x.count(0); d++) {
                sum = 31 * sum + x.late(c, d) + x.counts(d);
            }
        }
        note("all lates, summed up", sum);
    }

    private void images() {
        for (int k = 0; k < 3; k++) {
            note("back(" + k + ")", x.back(k));
            counts();
            lates();
        }
    }

    /** A row's width, length and numbers, by another slot that is lost for it, in a town where noon is 0. */
    private void row(int slot, int by) {
        Due.feed(x, Lead.EMPTY);
        x.town();
        for (int width = 0; width < 4; width++) {
            x.row(by, width, 2);
            if (note("width of row " + slot, x.paste(slot, 0, by, 0, 0)) != 0) {
                continue;
            }
            int n = 0;
            while (n < 60 && x.paste(slot, n, by, 1, 1) == 0) {
                note("row " + slot + ", number " + n, x.floor(by));
                note("row " + slot + ", number " + n, x.away(by));
                n++;
            }
            note("numbers of row " + slot, n);
        }
    }

    private void tape() {
        for (int i = 0; i < 3; i++) {
            note("town()", x.town());
            counts();
            lates();
            x.end(Math.max(0, x.count(7) - 1));
        }
    }
}
