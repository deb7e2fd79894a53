/** States that an object is led to, in which a call is refused or asked. */
enum Lead {
    /** A new object. */
    NEW,
    /** Three days, four clocks (one dead), two trades, acts, images, rows, a fault behind it, a tape. */
    RICH,
    /** As many acts as there can be. */
    FULL,
    /** No town, where there was one: rows, images and the tape are there. */
    CLEARED,
    /** A town of two days without clocks and trades, with rows. */
    BARE,
    /** A tape of 800 bytes, and no town. */
    TAPED,
    /** A town, acts, images and rows; town() was refused, and the tape that it refused is there. */
    FAULTY,
    /** A town, as it was when image 0 was taken. */
    TOLD;

    // Lates by day: clock 0: 10 13 16; 1: 15 15 15; 2: -6 -5 -4; 3, dead: 20 18 16. Noons: 15 15 16.
    static final String STREET = "town days 3 home 2 odds 5;"
        + "clock at 0 late 10 loses 3 rent 100;"
        + "clock at 5 late 15 loses 0 rent 50;"
        + "clock at 9 early 6 loses 1 rent 30;"
        + "clock at 4 late 20 gains 2 rent 70 dead;"
        + "trade waits 3; trade waits 4;";
    static final String EMPTY = "town days 2 home 0 odds 3;";

    static SlowNoon street() {
        return Due.told(STREET);
    }

    static SlowNoon bare() {
        return Due.told(EMPTY);
    }

    SlowNoon make() {
        SlowNoon x = new SlowNoon();
        switch (this) {
            case NEW: break;
            case RICH: rich(x); break;
            case FULL: full(x); break;
            case CLEARED: cleared(x); break;
            case BARE: withoutClocks(x); break;
            case TAPED: Due.feed(x, EMPTY + " ".repeat(800 - EMPTY.length())); break;
            case FAULTY: refused(x); break;
            default: Due.feed(x, STREET); x.town(); x.image(0); break;
        }
        return x;
    }

    private static void rich(SlowNoon x) {
        Due.feed(x, STREET);
        x.town();
        x.rate(0, 77);
        x.image(0);
        x.oil(0, 1);
        x.mend(1, 2);
        x.enter(3, 1, 0);
        x.image(1);
        x.enter(0, 2, 1);
        Due.fill(x, 0, 1, 0, 15, 1, 13);
        Due.fill(x, 1, 0, 2, 1, 0);
        Due.feed(x, "town days 9;");
        x.town();
        Due.feed(x, "town days 1 home 3 odds 2;");
    }

    private static void full(SlowNoon x) {
        Due.feed(x, STREET);
        x.town();
        x.image(2);
        for (int i = 0; i < 10; i++) {
            x.stop(2, 1);
            x.oil(0, i % 3);
            x.mend(1 + i % 3, 2);
            x.enter(i % 4, 2, i % 2);
        }
    }

    private static void cleared(SlowNoon x) {
        rich(x);
        x.end(0);
        x.town();
        Due.feed(x, "town days 1 home 3 odds 2;");
    }

    private static void refused(SlowNoon x) {
        rich(x);
        Due.feed(x, "town days 1 home 3 odds 2;clock at 4 late 7 loses 8 rent 9");
        x.town();
    }

    private static void withoutClocks(SlowNoon x) {
        Due.feed(x, EMPTY);
        x.town();
        Due.fill(x, 0, 1, 0, 7, 1, 9);
        Due.fill(x, 3, 3);
    }
}
