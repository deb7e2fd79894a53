/** The fullest town, 7 days, 6 clocks, 5 trades: every call of its last day and last clock, and just beyond them. */
public final class FullestTest {
    private static final Due DUE = new Due();

    // Clock c, at place c, strikes at 10 c on day 0, and a minute later each day; noon is 50 to 56, all trades wait 495.
    private static String text(int odds) {
        StringBuilder s = new StringBuilder("town days 7 home 0 odds " + odds + ";");
        for (int c = 0; c < 6; c++) {
            s.append("clock at ").append(c).append(" late ").append(10 * c).append(" loses 1 rent ").append(100 + c).append(";");
        }
        s.append("trade waits 99;".repeat(5));
        return s + " ".repeat(800 - s.length());
    }

    private static SlowNoon fullest() {
        return Due.told(text(5));
    }

    private static void of(SlowNoon x, String script) {
        for (String step : script.split(";")) {
            int at = step.trim().lastIndexOf(' ');
            DUE.due(step.trim(), Edges.ask(x, step), Long.decode(step.trim().substring(at + 1)));
        }
    }

    private static void days() {
        SlowNoon x = fullest();
        of(x, "count(0) 7; count(3) 6; count(4) 5; count(6) 12; count(7) 0; clock(5, 0) 5; clock(5, 3) 105; clock(6, 0) -1000");
        of(x, "late(5, 6) 56; late(5, 0) 50; late(0, 6) 6; late(5, 7) -1000; late(6, 6) -1000; noon(6) 56; noon(7) -1000; counts(6) 63; counts(7) -2");
        of(x, "slowest(6) 5; slowest(7) -2; order(6, 5) 5; order(6, 6) -1; order(6, 0) 0; struck(6, 1000) 63; struck(6, 55) 31; gap(6) 10; costs(6) 27720; costs(7) -2");
        of(x, "waits() 183645; worst() 6; reign(5) 127; reign(4) 0; rents(5) 735; without(5) 148995; without(0) 183645; best() 5; deals() 32; price(5) 33915; price(6) -1000000");
        of(x, "chorus(6) 1; tolls(6) 6; register(6) 0; heir(6) 4; watch(600) 127; watch(55) 63; watch(49) 0; alarm(55) 6; alarm(56) -1; alarm(49) 0");
        of(x, "meet(4, 5) -1; meet(5, 5) 0; meet(5, 6) -2; passes(5, 4) 127; passes(4, 5) 0; slack(0, 6) 50; slack(5, 6) 0; spread(6) 50; steady() 0; mean(5, 0) 53; mean(5, 1) 1");
    }

    private static void searches() {
        SlowNoon x = fullest();
        of(x, "bury(56) 0; bury(46) 1; bury(45) 2; buries(46) 32; buries(45) 48; bury(0) 6; buries(0) 63; bury(5) 6");
        of(x, "mends(0) 183645; mends(1) 148995; mended(1) 5; mends(2) 114345; mended(2) 4; mends(3) 79695; mended(3) 3");
        of(x, "fewest(600) 0; fewest(56) 0; fewest(55) 1; fewest(46) 1; fewest(45) 2; fewest(26) 3; fewest(25) -1");
        of(x, "round(6) 56; round(7) -2; rounds(6, 0) 0; rounds(6, 5) 5; rounds(6, 6) -1; lodge(6) 0; quorum(6, 6) 56; quorum(6, 1) 6; law(600) 6; law(55) 5; law(6) 1; law(5) 0; middle(6) 26");
        of(x, "rests(4, 5, 6) 1; rest(4, 5, 6) 0; race(4, 5, 6) 56; race(5, 4, 6) 56; rests(5, 6, 6) -2; rests(4, 5, 7) -2");
        Due.fill(x, 0, 0, 0, 1, 2, 3, 4, 5);
        Due.fill(x, 3, 3, 5, 4, 3, 2, 1, 0);
        of(x, "goes(0, 6) 56; goes(3, 6) 61; goes(3, 7) -2");
        Due.fill(x, 1, 1, 6, 56);
        of(x, "away(1) 32; gone(1) 0; surely(1) 0; ask(1) 0; under(1) 300; floor(1) 0");
        Due.fill(x, 1, 1, 6, 46);
        of(x, "away(1) 16; gone(1) 32; surely(1) 32; ask(1) 0; under(1) 0");
        Due.fill(x, 1, 1, 6, 60);
        of(x, "away(1) 0; under(1) 10; floor(1) 69; write(1, 0, 7) 0; away(1) -2");
        of(x, "chance(6, 56, 0) 1; chance(6, 56, 1) 8; chance(6, 86, 0) 1; chance(6, 86, 1) 1; chance(7, 0, 0) -2; sure(6, 100) 86; sure(6, 12) 56; sure(6, 13) 66; likely(6) 5; likely(7) -2");
        SlowNoon all = Due.told(text(10));
        of(all, "drawn(0, 0) 287595; drawn(0, 1) 127; luck(0, 20, 5, 6) 20; luck(0, 20, 4, 6) 0; luck(0, 20, 6, 6) -2; luck(0, 20, 5, 7) -2; drawn(2000000000, 0) 287595");
        of(Due.told(text(0)), "drawn(0, 0) 183645; drawn(0, 1) 0; luck(0, 20, 5, 6) 20");
    }

    private static void acts() {
        SlowNoon x = fullest();
        of(x, "mend(5, 6) 56; noon(6) 46; noon(5) 55; stop(5, 6) 0; noon(6) 10000; costs(6) 297000; enter(5, 6, 1) 0; noon(6) 46; counts(6) 31; undo() 2; noon(6) 10000; anew() 2; oil(5, 1) 51; late(5, 6) 51");
        of(x, "mend(6, 0) -1000; mend(0, 7) -1000; enter(5, 7, 1) -2; enter(6, 6, 1) -2; count(5) 1; undo() 0; rate(5, 999) 105; rents(5) 6993; price(5) 27657; rate(6, 1) -2");
        for (int i = 1; i <= 40; i++) {
            of(x, "stop(5, 6) " + (i == 1 ? 56 : 10000) + "; count(5) " + i);
        }
        of(x, "stop(5, 6) -5; image(2) 0; anew() 40; waits() 183645; back(2) 0; count(5) 40; noon(6) 10000; waits() 452925");
        for (int c = 0; c < 6; c++) {
            of(x, "undo() " + (39 - c) + "; enter(" + c + ", 0, 1) 0; undo() " + (39 - c));
        }
        of(x, "anew() 34; enter(0, 0, 1) 0; enter(1, 0, 1) 0; enter(2, 0, 1) 0; enter(3, 0, 1) 0; enter(4, 0, 1) 0; enter(5, 0, 1) 0; counts(6) 0; register(6) 63; noon(6) 0; waits() 0; worst() -1; slowest(6) -1");
        of(x, "anew() 6; stop(0, 0) 0; stop(1, 0) 10; stop(2, 0) 20; stop(3, 0) 30; stop(4, 0) 40; stop(5, 0) 50; waits() 2079000; slowest(6) 0; heir(6) 1; gap(6) 0; chorus(6) 0; tolls(6) 0; law(600) 0; bury(600) 6; fewest(600) -1; mends(3) 2079000; mended(3) -1; round(6) 10000; middle(6) 10000");
    }

    public static void main(String[] args) {
        days();
        searches();
        acts();
        DUE.close("FullestTest");
    }
}
