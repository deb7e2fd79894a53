import java.io.IOException;

/** The document's sentences on acts, rents, images and rows: promises 59 to 64, 67 and 69 to 73. */
public final class EdgeActsTest {
    private static final Edges E = new Edges("EdgeActsTest", "59-64", "67", "69-73");

    private static SlowNoon street() {
        return Lead.street();
    }

    private static void repairs() {
        E.says(59, "A CLOCK is mended on a DAY (IV): LATE it had ahead of it.");
        E.of(street(), "mend(0, 1) 13; late(0, 0) 10; late(0, 1) 0; late(0, 2) 3; mend(0, 1) 0; mend(0, 2) 3; late(0, 2) 0; count(5) 3; late(1, 1) 15");
        E.of(street(), "mend(2, 2) -4; late(2, 2) 0; mend(3, 0) 20; late(3, 0) 0; late(3, 2) -4; counts(0) 7; mend(1, 0) 15");
        E.of(street(), "stop(0, 0) 10; mend(0, 2) NEVER; late(0, 0) NEVER; late(0, 1) NEVER; late(0, 2) 0");
        E.says(59, "-5: there were 40 acts;");
        E.stays("mend(0, 0) -5; mend(3, 2) -5", Lead.FULL);
        fortyActs("mend(0, 0)", "10");
        E.says(59, "-1,000: there are none such.");
        E.noClock("mend(%, 0)", "-1000");
        E.noDay("mend(0, %)", "-1000");
        E.says(60, "A CLOCK is oiled on a DAY (from then on it neither loses nor gains): LATE ahead of it.");
        E.of(street(), "oil(0, 0) 10; late(0, 0) 10; late(0, 1) 10; late(0, 2) 10; oil(0, 2) 10; count(5) 2");
        E.of(street(), "oil(0, 1) 13; late(0, 0) 10; late(0, 1) 13; late(0, 2) 13; oil(3, 0) 20; late(3, 2) 20; oil(2, 2) -4; late(2, 1) -5; late(2, 2) -4; oil(1, 0) 15; late(1, 2) 15");
        E.of(street(), "stop(0, 1) 13; oil(0, 1) NEVER; late(0, 2) NEVER; late(0, 0) 10; mend(0, 1) NEVER; late(0, 2) 3");
        E.says(60, "-5, -1,000 likewise.");
        E.stays("oil(0, 0) -5; oil(3, 2) -5", Lead.FULL);
        fortyActs("oil(0, 0)", "10");
        E.noClock("oil(%, 0)", "-1000");
        E.noDay("oil(0, %)", "-1000");
        E.says(61, "A CLOCK stops on a DAY (till it is mended): LATE it had ahead of it.");
        E.of(street(), "stop(2, 1) -5; late(2, 0) -6; late(2, 1) NEVER; late(2, 2) NEVER; stop(2, 2) NEVER; stop(2, 0) -6; late(2, 0) NEVER; count(5) 3");
        E.of(street(), "stop(0, 0) 10; oil(0, 1) NEVER; late(0, 1) NEVER; mend(0, 1) NEVER; late(0, 0) NEVER; late(0, 1) 0; late(0, 2) 3; stop(0, 1) 0; late(0, 2) NEVER; stop(3, 2) 16; noon(1) NEVER");
        E.says(61, "-5, -1,000 likewise.");
        E.stays("stop(0, 0) -5; stop(3, 2) -5", Lead.FULL);
        fortyActs("stop(0, 0)", "10");
        E.noClock("stop(%, 0)", "-1000");
        E.noDay("stop(0, %)", "-1000");
        E.says(62, "A CLOCK is entered as dead from a DAY on (on 1), or no more (on 0): 1 if it was dead on that DAY ahead of it, else 0.");
        E.of(street(), "enter(0, 1, 1) 0; register(0) 8; register(1) 9; register(2) 9; enter(0, 2, 0) 1; register(2) 8; enter(0, 1, 1) 1; enter(0, 2, 0) 0; late(0, 1) 13; count(5) 4");
        E.of(street(), "enter(3, 0, 0) 1; register(0) 0; register(2) 0; enter(3, 0, 0) 0; enter(3, 2, 1) 0; register(1) 0; register(2) 8; enter(3, 2, 1) 1; enter(3, 0, 1) 0; register(0) 8");
        E.of(street(), "stop(0, 0) 10; enter(0, 0, 1) 0; noon(0) 15; enter(0, 1, 0) 1; noon(0) 15; noon(1) NEVER; mend(0, 1) NEVER; noon(1) 15");
        E.says(62, "-5: there were 40 acts;");
        E.stays("enter(0, 0, 1) -5; enter(3, 2, 0) -5", Lead.FULL);
        fortyActs("enter(0, 0, 1)", "0");
        E.says(62, "-2: there are none such.");
        E.noClock("enter(%, 0, 1)", "-2");
        E.noDay("enter(0, %, 0)", "-2");
        E.stays("enter(0, 0, 2) -2; enter(0, 0, -1) -2; enter(0, 0, MIN) -2; enter(0, 0, MAX) -2; enter(0, 0, 257) -2", Lead.RICH, Lead.FULL);
    }

    /** The fortieth act is done, the next is refused, and one that is taken back makes room for it. */
    private static void fortyActs(String call, String want) {
        SlowNoon x = street();
        for (int i = 1; i <= 39; i++) {
            E.of(x, "oil(1, 0) 15; count(5) " + i);
        }
        E.of(x, call + " " + want + "; count(5) 40; " + call + " -5; count(5) 40; oil(1, 0) -5; undo() 39; " + call + " " + want + "; count(5) 40; anew() 40; " + call + " " + want + "; count(5) 1");
    }

    private static void backs() {
        E.says(63, "The latest act is taken back: how many there are.");
        E.of(street(), "mend(0, 2) 16; stop(0, 1) 13; enter(1, 0, 1) 0; oil(2, 0) -6; late(2, 2) -6; undo() 3; late(2, 2) -4; counts(0) 5; undo() 2; counts(0) 7; late(0, 1) NEVER; undo() 1; late(0, 1) 13; late(0, 2) 0; undo() 0; late(0, 2) 16; waits() 322");
        SlowNoon x = Lead.FULL.make();
        for (int left = 39; left >= 0; left--) {
            E.of(x, "undo() " + left + "; count(5) " + left);
        }
        E.of(x, "undo() -5; waits() 322");
        E.says(63, "-5: there is none;");
        E.stays("undo() -5", Lead.BARE);
        E.of(street(), "undo() -5; mend(0, 0) 10; undo() 0; undo() -5; mend(0, 0) 10; anew() 1; undo() -5");
        E.says(63, "-2: there is no TOWN.");
        E.noTown("undo()", "-2");
        E.says(64, "All are: how many there were.");
        E.of(Lead.FULL.make(), "anew() 40; count(5) 0; waits() 322; counts(2) 7; register(2) 8; anew() 0; undo() -5");
        E.of(Lead.RICH.make(), "anew() 4; clock(0, 3) 77; late(0, 2) 16; counts(2) 7; count(7) 26; count(8) 2; fault(0) 2; back(1) 0; count(5) 3");
        E.stays("anew() 0", Lead.BARE);
        E.says(64, "-2 likewise.");
        E.noTown("anew()", "-2");
        E.says(67, "rent of a CLOCK is n (0 .. 999) from now on: what it was.");
        E.of(street(), "rate(0, 999) 100; rate(0, 0) 999; rate(0, 0) 0; rents(0) 0; rate(1, 7) 50; rents(1) 14; clock(1, 3) 7; clock(2, 3) 30; rate(3, 1) 70; rate(3, 70) 1; count(5) 0");
        E.of(street(), "rate(0, 5) 100; mend(2, 0) -6; rents(0) 5; anew() 1; rate(0, 6) 5");
        E.says(67, "-5: there were acts;");
        E.stays("rate(0, 1) -5; rate(3, 999) -5; rate(1, 0) -5", Lead.RICH, Lead.FULL);
        E.of(street(), "mend(0, 0) 10; rate(0, 1) -5; rents(1) 150; undo() 0; rate(0, 1) 100");
        E.says(67, "-2: there are none such.");
        E.noClock("rate(%, 1)", "-2");
        E.stays("rate(0, -1) -2; rate(0, 1000) -2; rate(0, MIN) -2; rate(0, MAX) -2; rate(4, 1000) -2", Lead.RICH);
        E.of(street(), "rate(0, -1) -2; rate(0, 1000) -2; rate(4, 5) -2; rate(-1, 5) -2; clock(0, 3) 100");
    }

    private static void images() {
        E.says(69, "IMAGE k (0 .. 2) keeps the TOWN, and acts: 0.");
        for (int k = 0; k < 3; k++) {
            E.of(street(), "stop(2, 0) -6; image(" + k + ") 0; anew() 1; rate(0, 1) 100; mend(1, 1) 15; mend(1, 2) 0; back(" + k + ") 0; count(5) 1; noon(0) NEVER; late(1, 1) 15; clock(0, 3) 100; undo() 0; noon(0) 15");
        }
        E.stays("image(0) 0", Lead.TOLD);
        // In place of what it kept; each by itself.
        E.of(street(), "image(0) 0; stop(2, 0) -6; image(1) 0; stop(0, 0) 10; image(0) 0; anew() 2; back(1) 0; count(5) 1; back(0) 0; count(5) 2; back(1) 0; count(5) 1; undo() 0; back(1) 0; count(5) 1; back(2) -6");
        SlowNoon x = new SlowNoon();
        E.of(x, "image(1) 0");
        Due.feed(x, Lead.STREET);
        E.of(x, "town() 7; back(1) 0; waits() -2; count(0) 0; count(6) 0; undo() -2");
        E.says(69, "-2: no such k.");
        E.stays("image(3) -2; image(-1) -2; image(MIN) -2; image(MAX) -2; image(32) -2", Lead.NEW, Lead.RICH);
        E.says(70, "It is as IMAGE k has it: 0.");
        E.of(Lead.RICH.make(), "back(0) 0; count(5) 0; clock(0, 3) 77; late(0, 2) 16; waits() 322; back(1) 0; count(5) 3; late(0, 2) 13; counts(1) 15; counts(2) 15; undo() 2; counts(1) 7");
        // The tape, the rows and the latest fault are no part of it.
        E.of(Lead.RICH.make(), "back(0) 0; count(7) 26; count(8) 2; fault(0) 2; fault(1) 10; write(0, 3, 0) 0; write(0, 4, 0) -7; town() 1");
        E.of(Lead.CLEARED.make(), "waits() -2; back(0) 0; waits() 322; count(6) 7; count(1) 2; count(2) 5; count(4) 2");
        x = Lead.FULL.make();
        Due.feed(x, "town days 7 home 9 odds 10;");
        E.of(x, "image(0) 0; town() 1; count(0) 7; back(0) 0; count(5) 40; count(0) 3; noon(3) -1000; mend(0, 0) -5; back(2) 0; count(5) 0");
        E.says(70, "-2: no such k;");
        E.stays("back(3) -2; back(-1) -2; back(MIN) -2; back(MAX) -2; back(32) -2", Lead.NEW, Lead.RICH);
        E.says(70, "-6: it has nothing.");
        E.stays("back(2) -6", Lead.RICH, Lead.CLEARED);
        E.stays("back(0) -6; back(1) -6", Lead.FULL);
        E.stays("back(0) -6; back(1) -6; back(2) -6", Lead.NEW, Lead.BARE);
    }

    /** A town of one clock, 6 early, and one that is 9 late on both days: noons of -6, 0 and 9 can be told apart. */
    private static SlowNoon reader() {
        return Due.told("town days 2 home 0 odds 0;clock at 0 early 6 loses 0 rent 0;clock at 0 late 9 loses 0 rent 0;");
    }

    private static void rows() {
        E.says(71, "A SLOT (0 .. 3) has a row of n numbers of a WIDTH, all 0 (in place of another one): 0.");
        for (int slot = 0; slot < 4; slot++) {
            for (int width = 0; width < 4; width++) {
                SlowNoon x = Lead.bare();
                String s = slot + ", ";
                E.of(x, "row(" + s + width + ", 60) 0; away(" + slot + ") 1; write(" + s + "59, 7) 0; away(" + slot + ") 0; write(" + s + "60, 7) -7; row(" + s + width + ", 60) 0; away(" + slot + ") 1");
                for (int i = 0; i < 60; i++) {
                    E.of(x, "write(" + s + i + ", 5) 0");
                }
                E.of(x, "away(" + slot + ") -2; row(" + s + width + ", 60) 0; away(" + slot + ") 1; row(" + s + width + ", 1) 0; away(" + slot + ") -2; row(" + s + width + ", 60) 0");
                // A shorter one, then a longer one: what was written is gone.
                E.of(x, "write(" + s + "5, 7) 0; row(" + s + width + ", 2) 0; write(" + s + "2, 1) -7; away(" + slot + ") 1; row(" + s + width + ", 8) 0; away(" + slot + ") 1; row(" + s + (3 - width) + ", 0) 0; away(" + slot + ") 1; write(" + s + "0, 1) -7; count(8) 1");
            }
        }
        E.of(new SlowNoon(), "row(0, 0, 0) 0; row(1, 1, 1) 0; row(2, 2, 59) 0; row(3, 3, 60) 0; count(8) 4");
        E.says(71, "-2: there is no such SLOT or WIDTH (0 .. 3), or n is above 60;");
        E.noSlot("row(%, 0, 1)", "-2");
        E.noSlot("row(%, 0, -1)", "-2");
        E.stays("row(0, 4, 1) -2; row(0, -1, 1) -2; row(0, MIN, 1) -2; row(0, MAX, 1) -2; row(0, 0, 61) -2; row(0, 0, MAX) -2; row(1, 3, 61) -2; row(2, 0, 61) -2; row(3, 4, 0) -2; row(0, 4, -1) -2", Lead.RICH, Lead.NEW, Lead.BARE);
        E.says(71, "-3, and the SLOT stays: n is below 0.");
        E.stays("row(0, 0, -1) -3; row(0, 1, -1) -3; row(1, 3, -60) -3; row(2, 0, -1) -3; row(3, 2, MIN) -3", Lead.RICH, Lead.NEW, Lead.BARE);
        E.says(72, "Number i of the SLOT's row is v, cut to its WIDTH: 0.");
        for (int width = 0; width < 4; width++) {
            SlowNoon x = reader();
            E.of(x, "row(0, " + width + ", 4) 0; write(0, 1, 9) 0; write(0, 3, 9) 0; away(0) 2; write(0, 3, -6) 0; away(0) 0; write(0, 1, -6) 0; away(0) 1; gone(0) 2; write(0, 2, 1) 0; away(0) 1; write(0, 2, 2) 0; away(0) -2");
            if (width < 3) {
                long turn = 1L << (8 << width);
                for (long v : new long[] {9 + turn, 9 - turn, 9 + 5 * turn, 9 + Long.MIN_VALUE}) {
                    E.of(reader(), "row(0, " + width + ", 2) 0; write(0, 1, " + v + ") 0; away(0) 2; write(0, 0, " + (v - 8) + ") 0; away(0) 2");
                }
                E.of(reader(), "row(0, " + width + ", 2) 0; write(0, 1, " + (turn - 6) + ") 0; away(0) 1; gone(0) 2; write(0, 1, " + turn / 2 + ") 0; away(0) " + (width < 1 ? 0 : -2));
                E.of(reader(), "row(0, " + width + ", 2) 0; write(0, 0, " + turn + ") 0; write(0, 1, " + Long.MIN_VALUE + ") 0; away(0) 1; gone(0) 3; write(0, 0, " + Long.MAX_VALUE + ") 0; away(0) -2");
            }
        }
        E.of(reader(), "row(0, 3, 2) 0; write(0, 1, 4294967305) 0; away(0) -2; write(0, 1, 9) 0; away(0) 2; write(0, 0, 4294967296) 0; away(0) -2");
        E.says(72, "-2: there is no such SLOT;");
        E.noSlot("write(%, 0, 1)", "-2");
        E.noSlot("write(%, -1, 1)", "-2");
        E.says(72, "-6: it has nothing;");
        E.stays("write(2, 0, 1) -6; write(3, 0, 1) -6; write(2, -1, 1) -6; write(2, 60, 1) -6", Lead.RICH);
        E.stays("write(0, 0, 1) -6; write(3, 0, 1) -6", Lead.NEW);
        E.says(72, "-7: there is no such number.");
        E.stays("write(0, 4, 1) -7; write(0, -1, 1) -7; write(0, 60, 1) -7; write(0, MIN, 1) -7; write(0, MAX, 1) -7; write(1, 3, 1) -7", Lead.RICH, Lead.CLEARED);
        E.stays("write(3, 0, 1) -7; write(3, -1, 1) -7", Lead.BARE);
    }

    /** What a slot's row of the first slots has, number by number, as noons of a town without clocks. */
    private static void holds(SlowNoon x, int slot, int width, int... numbers) {
        E.of(x, "row(3, " + width + ", 2) 0");
        for (int i = 0; i < numbers.length; i++) {
            E.of(x, "paste(" + slot + ", " + i + ", 3, 1, 1) 0; floor(3) " + 10 * numbers[i]);
        }
        E.of(x, "paste(" + slot + ", " + numbers.length + ", 3, 1, 1) -7");
    }

    private static SlowNoon twoRows(int width) {
        SlowNoon x = Lead.bare();
        Due.fill(x, 0, width, 1, 2, 3, 4, 5);
        Due.fill(x, 1, width, 11, 12, 13);
        return x;
    }

    private static void pastes() {
        E.says(73, "So many numbers of a SLOT's row, from one on, are put to another one's (or its own), from one on, as they were: 0.");
        for (int width = 0; width < 4; width++) {
            SlowNoon x = twoRows(width);
            E.of(x, "paste(0, 1, 1, 0, 3) 0");
            holds(x, 1, width, 2, 3, 4);
            holds(x, 0, width, 1, 2, 3, 4, 5);
            E.of(x, "paste(1, 2, 0, 4, 1) 0; paste(0, 0, 1, 1, 0) 0; paste(0, 5, 1, 3, 0) 0");
            holds(x, 0, width, 1, 2, 3, 4, 4);
            holds(x, 1, width, 2, 3, 4);
            // Its own, one over the other: as they were.
            x = twoRows(width);
            E.of(x, "paste(0, 0, 0, 1, 4) 0");
            holds(x, 0, width, 1, 1, 2, 3, 4);
            x = twoRows(width);
            E.of(x, "paste(0, 2, 0, 0, 3) 0");
            holds(x, 0, width, 3, 4, 5, 4, 5);
            x = twoRows(width);
            E.of(x, "paste(0, 0, 0, 0, 5) 0; paste(0, 1, 0, 3, 2) 0");
            holds(x, 0, width, 1, 2, 3, 2, 3);
        }
        SlowNoon full = Lead.bare();
        E.of(full, "row(0, 0, 60) 0; row(1, 0, 60) 0; write(0, 0, 7) 0; write(0, 59, 9) 0; paste(0, 0, 1, 0, 60) 0; row(2, 0, 2) 0; paste(1, 59, 2, 1, 1) 0; floor(2) 90; paste(1, 0, 2, 1, 1) 0; floor(2) 70; paste(1, 0, 0, 59, 1) 0; paste(0, 59, 2, 1, 1) 0; floor(2) 70");
        E.says(73, "-2: there is no such SLOT;");
        E.noSlot("paste(%, 0, 0, 0, 1)", "-2");
        E.noSlot("paste(0, 0, %, 0, 1)", "-2");
        E.noSlot("paste(2, 0, %, 0, 1)", "-2");
        E.noSlot("paste(%, -1, 2, -1, -1)", "-2");
        E.says(73, "-6: one has nothing;");
        E.stays("paste(2, 0, 0, 0, 1) -6; paste(0, 0, 2, 0, 1) -6; paste(2, 0, 3, 0, 1) -6; paste(2, 0, 2, 0, 0) -6; paste(2, -1, 0, 0, 1) -6; paste(0, 0, 3, 0, 99) -6", Lead.RICH);
        E.says(73, "-8: they are not of one WIDTH;");
        E.stays("paste(0, 0, 1, 0, 1) -8; paste(1, 0, 0, 0, 1) -8; paste(0, 0, 1, 0, 0) -8; paste(0, 9, 1, 0, 1) -8; paste(0, -1, 1, 0, 1) -8; paste(0, 0, 1, 0, -1) -8; paste(1, 0, 0, 0, MAX) -8", Lead.RICH);
        for (int width = 0; width < 4; width++) {
            for (int other = 0; other < 4; other++) {
                E.of(new SlowNoon(), "row(0, " + width + ", 3) 0; row(1, " + other + ", 3) 0; paste(0, 0, 1, 0, 1) " + (width == other ? 0 : -8));
            }
        }
        E.says(73, "-7, and nothing happens: some are beyond their rows, or a place or n is below 0.");
        E.stays("paste(0, 0, 0, 0, 5) -7; paste(0, 1, 0, 0, 4) -7; paste(0, 0, 0, 1, 4) -7; paste(0, 4, 0, 0, 1) -7; paste(0, 0, 0, 4, 1) -7; paste(0, 3, 0, 0, 2) -7;"
            + "paste(0, -1, 0, 0, 1) -7; paste(0, 0, 0, -1, 1) -7; paste(0, 0, 0, 0, -1) -7; paste(0, -1, 0, -1, 0) -7; paste(0, MIN, 0, 0, 1) -7; paste(0, 0, 0, MIN, 1) -7; paste(0, 0, 0, 0, MIN) -7;"
            + "paste(0, MAX, 0, 0, 1) -7; paste(0, 0, 0, MAX, 1) -7; paste(0, 0, 0, 0, MAX) -7; paste(0, MAX, 0, MAX, MAX) -7; paste(0, 1, 0, 1, MAX) -7; paste(0, MIN, 0, MIN, MIN) -7; paste(0, 5, 0, 0, -1) -7; paste(1, 0, 1, 0, 4) -7", Lead.RICH, Lead.CLEARED);
        E.stays("paste(3, 0, 3, 0, 1) -7; paste(3, 0, 3, 0, -1) -7", Lead.BARE);
        // One row is long enough, the other is not.
        SlowNoon x = twoRows(2);
        E.of(x, "paste(0, 0, 1, 0, 4) -7; paste(1, 0, 0, 0, 4) -7; paste(0, 0, 1, 1, 3) -7; paste(1, 1, 0, 0, 3) -7");
        holds(x, 0, 2, 1, 2, 3, 4, 5);
        holds(x, 1, 2, 11, 12, 13);
    }

    public static void main(String[] args) throws IOException {
        repairs();
        backs();
        images();
        rows();
        pastes();
        E.close();
    }
}
