import java.io.IOException;
import java.util.ArrayList;
import java.util.List;

/** The document's sentences on the text, the tape and the town that is told: term I, promises 1 to 6 and 68. */
public final class EdgeTextTest {
    private static final Edges E = new Edges("EdgeTextTest", "I", "1-6", "68");
    private static final String TOWN = "town days 1 home 0 odds 0;";
    private static final String CLOCK = "clock at 0 late 1 loses 1 rent 1;";
    private static final String TRADE = "trade waits 1;";

    private static SlowNoon fed(String text) {
        SlowNoon x = new SlowNoon();
        Due.feed(x, text);
        return x;
    }

    private static SlowNoon good(String text, int lines) {
        SlowNoon x = fed(text);
        E.due("town() of " + text, x.town(), lines);
        return E.of(x, "fault(0) 0; fault(1) NONE; count(6) " + lines);
    }

    private static void bad(String text, int fault, int place) {
        SlowNoon x = fed(text);
        E.due("town() of " + text, x.town(), -4);
        E.due("fault(0) of " + text, x.fault(0), fault);
        E.due("fault(1) of " + text, x.fault(1), place);
        E.of(x, "count(6) 0; count(0) 0");
    }

    /** Texts that are good but for one number, which takes the percent sign's place: only least .. most are good. */
    private static void bounds(String text, int least, int most) {
        int place = text.indexOf('%');
        for (long n : new long[] {least - 1, least, least + 1, most - 1, most, most + 1, 256, 65536, 1L << 31, 1L << 32, (1L << 32) + least}) {
            if (n >= least && n <= most) {
                good(text.replace("%", "" + n), text.replaceAll("[^;]", "").length());
            } else if (n >= 0) {
                bad(text.replace("%", "" + n), 2, place);
            }
        }
    }

    /** Each letter of each word made another, or left out: it is another word, which can't stand there. */
    private static void everyLetter(String ahead, String line) {
        for (int i = 0; i < line.length(); i++) {
            if (line.charAt(i) >= 'a' && line.charAt(i) <= 'z') {
                int place = line.lastIndexOf(' ', i) + 1;
                bad(ahead + line.substring(0, i) + (line.charAt(i) == 'q' ? 'p' : 'q') + line.substring(i + 1), 1, ahead.length() + place);
                if (line.indexOf(' ', i) > place + 1) {
                    bad(ahead + line.substring(0, i) + line.substring(i + 1), 1, ahead.length() + place);
                }
            }
        }
    }

    private static String join(List<String> tokens) {
        return String.join(" ", tokens);
    }

    /** Each token of a line left out, or said twice: the one behind it can't stand there. */
    private static void everyToken(String ahead, String line) {
        List<String> tokens = List.of(line.split(" "));
        for (int i = 0; i < tokens.size(); i++) {
            List<String> fewer = new ArrayList<>(tokens);
            fewer.remove(i);
            int place = join(fewer.subList(0, i)).length() + (i > 0 && i < fewer.size() ? 1 : 0);
            bad(ahead + join(fewer), 1, ahead.length() + place);
            List<String> more = new ArrayList<>(tokens);
            more.add(i, tokens.get(i));
            bad(ahead + join(more), 1, ahead.length() + join(more.subList(0, i + 1)).length() + 1);
            List<String> other = new ArrayList<>(tokens);
            other.set(i, tokens.get(i).matches("\\d+") ? "x" : tokens.get(i).equals(";") ? "7" : ";");
            bad(ahead + join(other), 1, ahead.length() + join(other.subList(0, i)).length() + (i > 0 ? 1 : 0));
        }
    }

    private static void lines() {
        E.says("I", "TOWN: {LINE ;}.");
        good("", 0);
        good(" \n \n", 0);
        good(TOWN, 1);
        good(TOWN + TRADE, 2);
        good(TOWN + TRADE.repeat(5) + CLOCK.repeat(6), 12);
        bad(";", 1, 0);
        bad(TOWN + ";", 1, 26);
        bad("town days 1 home 0 odds 0", 1, 25);
        bad("town days 1 home 0 odds 0 " + TRADE, 1, 26);
        bad(TOWN + "trade waits 1 trade waits 1;", 1, 40);
        bad(TOWN + "trade waits 1", 1, 39);
        bad(TOWN + "trade waits 1 \n ", 1, 42);
        E.says("I", "LINE: town days N home P odds N | clock at P late|early N loses|gains N rent N [dead] | trade waits N.");
        everyToken("", "town days 1 home 0 odds 0 ;");
        everyToken(TOWN, "clock at 3 late 5 loses 2 rent 9 ;");
        everyToken(TOWN, "clock at 3 early 5 gains 2 rent 9 ;");
        everyToken(TOWN, "trade waits 4 ;");
        everyLetter("", "town days 1 home 0 odds 0 ;");
        everyLetter(TOWN, "clock at 3 late 5 loses 2 rent 9 dead ;");
        everyLetter(TOWN, "clock at 3 early 5 gains 2 rent 9 ;");
        everyLetter(TOWN, "trade waits 4 ;");
        E.of(TOWN + "clock at 3 late 5 gains 2 rent 9 dead;", "clock(0, 0) 3; clock(0, 1) 5; clock(0, 2) -2; clock(0, 3) 9; clock(0, 4) 1");
        E.of(TOWN + "clock at 4 early 6 loses 3 rent 8;", "clock(0, 0) 4; clock(0, 1) -6; clock(0, 2) 3; clock(0, 3) 8; clock(0, 4) 0");
        bad(TOWN + "clock at 3 late 5 loses 2 rent 9 dead dead ;", 1, 64);
        bad(TOWN + "clock at 3 late 5 loses 2 dead rent 9 ;", 1, 52);
        bad(TOWN + "clock dead at 3 late 5 loses 2 rent 9 ;", 1, 32);
        bad(TOWN + "clock at 3 late early 5 loses 2 rent 9 ;", 1, 42);
        bad(TOWN + "clock at 3 loses 5 late 2 rent 9 ;", 1, 37);
        bad("town days 1 home 0 odds 0 dead;", 1, 26);
        bad(TOWN + "trade waits 4 dead;", 1, 40);
        E.says("I", "town is the first LINE and no other:");
        bad(CLOCK + TOWN, 1, 0);
        bad(TRADE + TOWN, 1, 0);
        bad(TOWN + TOWN, 1, 26);
        bad(TOWN + CLOCK + TOWN, 1, 26 + 33);
        bad(TOWN + TRADE + "town", 1, 26 + 14);
    }

    private static void numbers() {
        E.says("I", "days 1 .. 7, home a PLACE 0 .. 9, odds 0 .. 10.");
        bounds("town days % home 0 odds 0;", 1, 7);
        bounds("town days 1 home % odds 0;", 0, 9);
        bounds("town days 1 home 0 odds %;", 0, 10);
        E.of("town days 7 home 9 odds 10;", "count(0) 7; count(1) 9; count(2) 10");
        E.of("town days 1 home 0 odds 0;", "count(0) 1; count(1) 0; count(2) 0");
        E.says("I", "clock: its PLACE 0 .. 9, late (or early: below 0) 0 .. 60, loses (or gains: below 0) 0 .. 9, rent 0 .. 999, dead or not.");
        bounds(TOWN + "clock at % late 1 loses 1 rent 1;", 0, 9);
        bounds(TOWN + "clock at 0 late % loses 1 rent 1;", 0, 60);
        bounds(TOWN + "clock at 0 early % loses 1 rent 1;", 0, 60);
        bounds(TOWN + "clock at 0 late 1 loses % rent 1;", 0, 9);
        bounds(TOWN + "clock at 0 late 1 gains % rent 1;", 0, 9);
        bounds(TOWN + "clock at 0 late 1 loses 1 rent %;", 0, 999);
        bounds(TOWN + "clock at 0 late 1 loses 1 rent % dead;", 0, 999);
        E.of(TOWN + "clock at 9 early 60 gains 9 rent 999 dead;", "clock(0, 0) 9; clock(0, 1) -60; clock(0, 2) -9; clock(0, 3) 999; clock(0, 4) 1");
        E.of(TOWN + "clock at 0 early 0 gains 0 rent 0;", "clock(0, 0) 0; clock(0, 1) 0; clock(0, 2) 0; clock(0, 3) 0; clock(0, 4) 0");
        E.says("I", "trade: waits 0 .. 99.");
        bounds(TOWN + "trade waits %;", 0, 99);
        E.of(TOWN + CLOCK + "trade waits 99;", "waits() 99");
        E.of(TOWN + CLOCK + "trade waits 0;", "waits() 0; count(4) 1");
        E.says("I", "DAYS 0 .. days less 1.");
        for (int days = 1; days <= 7; days++) {
            E.of("town days " + days + " home 0 odds 0;" + CLOCK, "noon(0) 1; noon(" + (days - 1) + ") " + days
                + "; noon(" + days + ") -1000; noon(-1) -1000; noon(MIN) -1000; noon(MAX) -1000; late(0, " + days + ") -1000");
        }
        E.says("I", "CLOCKS 0 .. 5, TRADES 0 .. 4 are numbered as they stand.");
        StringBuilder six = new StringBuilder(TOWN);
        for (int c = 0; c < 6; c++) {
            E.of(six.toString(), "count(3) " + c + "; clock(" + c + ", 0) -1000; clock(-1, 0) -1000");
            six.append(c < 5 ? TRADE : "").append("clock at ").append(9 - c).append(" late 1 loses 1 rent 1;");
            E.of(six.toString(), "clock(" + c + ", 0) " + (9 - c) + "; clock(0, 0) 9; count(3) " + (c + 1) + "; count(4) " + Math.min(5, c + 1));
        }
        E.of(six.toString(), "clock(6, 0) -1000; count(6) 12; waits() 5");
    }

    private static void tokens() {
        E.says("I", "TOKENS, blanks (32, 10) aside, the longest:");
        good("\n\n  town\ndays\n 1 home\n\n0 odds 0\n;\n  ", 1);
        good("town days1home0odds0;trade waits7;", 2);
        good(TOWN + "clock at 3late 5loses 2rent 9dead;", 2);
        bad("towndays 1 home 0 odds 0;", 1, 0);
        bad("to wn days 1 home 0 odds 0;", 1, 0);
        bad("town daysone", 1, 5);
        bad("town days 1 0 home 0 odds 0;", 1, 12);
        bad(TOWN + "clock at 0 late 1 loses 1 rent 1deadly;", 1, 58);
        bad(TOWN + "clocks at 0", 1, 26);
        for (int sign = 0; sign < 256; sign++) {
            String s = "" + (char) sign;
            if (sign == 32 || sign == 10) {
                good("town" + s + "days 1 home 0 odds" + s + "0" + s + ";" + s, 1);
            } else if (sign < 'a' || sign > 'z') {
                bad("town" + s + "days 1 home 0 odds 0;", 1, 4);
            }
        }
        for (char letter = 'a'; letter <= 'z'; letter++) {
            bad("town" + letter + " days 1 home 0 odds 0;", 1, 0);
            bad(letter + "town days 1 home 0 odds 0;", 1, 0);
        }
        E.says("I", "words (a .. z), numbers (digits), the sign ; .");
        for (String s : new String[] {"`", "{", "A", "Z", "_", "\u00e1", "\u00ff", "\u0080", "\u007f", "\u0000", "-", "+", ".", ",", ":", "/", "\t", "\r"}) {
            bad(s, 1, 0);
            bad("town days " + s, 1, 10);
            bad("town days 1" + s, 1, 11);
            bad(TOWN + "trade waits 1" + s + ";", 1, 39);
            bad(TOWN + s, 1, 26);
        }
        bad("town days -1 home 0 odds 0;", 1, 10);
        bad("town days +1 home 0 odds 0;", 1, 10);
        bad("town days 0x1 home 0 odds 0;", 2, 10);
        bad("town days 1.5 home 0 odds 0;", 1, 11);
        good("town days 0000000000000000000000007 home 00 odds 0010;", 1);
    }

    private static void faults() {
        E.says("I", "FAULTS, the first by its place (a TOKEN's first byte; the end's), of one place the least:");
        bad("town days 8 home 10 odds 11", 2, 10);
        bad("town days 1 home 10 odds $", 2, 17);
        bad("town days 1 hom 10 odds $", 1, 12);
        bad("   town   dayz 1", 1, 10);
        bad("town", 1, 4);
        bad("town   \n", 1, 8);
        bad("  \n 123456 ", 1, 4);
        bad("99999999999999999999", 1, 0);
        bad(TOWN + CLOCK.repeat(6) + "trade waits 100;" + CLOCK, 2, 26 + 6 * 33 + 12);
        bad(TOWN + CLOCK.repeat(6) + CLOCK + "trade waits 100;", 3, 26 + 6 * 33);
        E.says("I", "1 a TOKEN that is none, or can't stand there (town behind the first LINE, another word ahead of it).");
        bad("?", 1, 0);
        bad("town?", 1, 4);
        bad(TOWN + "town days 1 home 0 odds 0;", 1, 26);
        bad(TOWN + CLOCK + "  town", 1, 26 + 33 + 2);
        bad("clock", 1, 0);
        bad("  trade waits 1;", 1, 2);
        bad("dead", 1, 0);
        bad("x town", 1, 0);
        bad(TOWN + "at 0", 1, 26);
        bad(TOWN + "7", 1, 26);
        E.says("I", "2 a number out of its bounds.");
        for (String n : new String[] {"0", "8", "00", "08", "10", "256", "257", "65537", "2147483648", "4294967297", "4294967296",
            "9223372036854775809", "18446744073709551617", "1" + "0".repeat(600), "9".repeat(700)}) {
            bad("town days " + n + " home 0 odds 0;", 2, 10);
        }
        bad(TOWN + "clock at 0 late 00061", 2, 42);
        good("town days " + "0".repeat(700) + "3 home 0 odds 0;", 1);
        E.says("I", "3 a 7th clock, 6th trade, at its word.");
        bad(TOWN + CLOCK.repeat(7), 3, 26 + 6 * 33);
        bad(TOWN + CLOCK.repeat(6) + " clock", 3, 26 + 6 * 33 + 1);
        bad(TOWN + CLOCK.repeat(6) + "clock at 99", 3, 26 + 6 * 33);
        bad(TOWN + CLOCK.repeat(6) + "clocks", 1, 26 + 6 * 33);
        bad(TOWN + CLOCK.replace(";", " dead;").repeat(7), 3, 26 + 6 * 38);
        bad(TOWN + TRADE.repeat(6), 3, 26 + 5 * 14);
        bad(TOWN + TRADE.repeat(5) + CLOCK + "trade", 3, 26 + 5 * 14 + 33);
        bad(TOWN + TRADE.repeat(5) + "trades", 1, 26 + 5 * 14);
        good(TOWN + TRADE.repeat(5) + CLOCK.repeat(6), 12);
    }

    private static void slots() {
        E.says("I", "SLOTS 0 .. 3 have rows of numbers of 1, 2, 4 or 8 bytes (WIDTH 0 .. 3), at most 60, or nothing.");
        for (int slot = 0; slot < 4; slot++) {
            SlowNoon x = E.of(Lead.bare(), "write(" + slot + ", 0, 1) -6; count(8) 0");
            for (int width = 0; width < 4; width++) {
                E.of(x, "row(" + slot + ", " + width + ", 60) 0; write(" + slot + ", 59, 1) 0; write(" + slot + ", 60, 1) -7; count(8) 1");
            }
        }
        E.says("I", "-2 (-1,000 and the like) is asked ahead of -5, -6.");
        E.stays("mend(4, 0) -1000; oil(0, 3) -1000; stop(-1, 0) -1000; enter(0, 0, 2) -2; rate(4, 1) -2; rate(0, 1000) -2; rate(0, -1) -2", Lead.FULL);
        E.stays("undo() -2; goes(0, 0) -2; goes(3, 0) -2; away(2) -2; gone(2) -2; surely(2) -2; ask(2) -2; under(2) -2; floor(2) -2", Lead.CLEARED, Lead.NEW);
        E.stays("goes(2, 3) -2; goes(2, -1) -2; paste(2, 0, 4, 0, 1) -2; paste(-1, 0, 2, 0, 1) -2; back(3) -2", Lead.RICH);
    }

    private static void tape() {
        E.says(1, "No TOWN.");
        SlowNoon x = new SlowNoon();
        for (int what = 0; what <= 8; what++) {
            E.of(x, "count(" + what + ") 0");
        }
        E.of(x, "waits() -2; noon(0) -1000; clock(0, 0) -1000; late(0, 0) -1000; fault(0) 0; fault(1) NONE; undo() -2; back(0) -6; back(1) -6; back(2) -6");
        E.says(2, "Twenty bytes come behind the TAPE, four of each number, the highest first: how many it has;");
        // "town days 2 home 3 o" "dds 4;" and blanks.
        x = E.of(new SlowNoon(), "feed(0x746f776e, 0x20646179, 0x73203220, 0x686f6d65, 0x2033206f) 20; count(7) 20;"
            + "feed(0x64647320, 0x343b2020, 0x20202020, 0x20202020, 0x20202020) 40; count(7) 40; town() 1; count(0) 2; count(1) 3; count(2) 4");
        E.of(x, "feed(-1, -1, -1, -1, -1) 20; town() -4; fault(0) 1; fault(1) 0; end(0) 0");
        E.of(x, "feed(0x20202080, 0, 0, 0, 0) 20; town() -4; fault(1) 3; end(3) 3; feed(0x20202020, 0x20202020, 0x20202020, 0x20202020, 0x2020207f) 23; town() -4; fault(1) 22");
        for (int i = 0; i < 5; i++) {
            int[] numbers = {0x20202020, 0x20202020, 0x20202020, 0x20202020, 0x20202020};
            numbers[i] = 0x20207820;
            E.of(new SlowNoon(), "feed(" + numbers[0] + "," + numbers[1] + "," + numbers[2] + "," + numbers[3] + "," + numbers[4] + ") 20; town() -4; fault(1) " + (4 * i + 2));
        }
        E.says(2, "NONE, and none come, if it would have more than 800.");
        x = new SlowNoon();
        for (int i = 1; i <= 40; i++) {
            E.of(x, "feed(0x20202020, 0x20202020, 0x20202020, 0x20202020, 0x20202020) " + 20 * i);
        }
        E.of(x, "feed(0x20202020, 0x20202020, 0x20202020, 0x20202020, 0x20202020) NONE; count(7) 800");
        for (int n = 781; n < 800; n++) {
            E.of(Lead.TAPED.make(), "end(" + n + ") " + n + "; feed(1, 2, 3, 4, 5) NONE; count(7) " + n + "; town() 1");
        }
        E.of(Lead.TAPED.make(), "end(780) 780; feed(0x20202020, 0x20202020, 0x20202020, 0x20202020, 0x2020203b) 800; feed(0, 0, 0, 0, 0) NONE; town() -4; fault(1) 799; end(799) 799; town() 1");
        E.stays("feed(1, 2, 3, 4, 5) NONE; feed(-1, -1, -1, -1, -1) NONE", Lead.TAPED);
    }

    private static void ends() {
        E.says(3, "The TAPE has its first n bytes alone: n;");
        for (int n = 0; n <= 26; n++) {
            E.of(fed(TOWN), "end(" + n + ") " + n + "; count(7) " + n + "; end(" + n + ") " + n + "; town() " + (n == 0 ? 0 : n == 26 ? 1 : -4));
        }
        // The bytes that were cut off are gone, also when more come behind the first ones.
        E.of(fed(TOWN + "$"), "end(26) 26; town() 1");
        E.of(fed("town days 1"), "end(3) 3; town() -4; fault(1) 0");
        E.of(fed("towns"), "end(4) 4; town() -4; fault(1) 4");
        E.of(fed("town days 1 home 0 odds 10"), "end(25) 25; town() -4; fault(0) 1; fault(1) 25");
        E.of(fed("town days 11"), "end(11) 11; town() -4; fault(0) 1; fault(1) 11");
        E.of(fed("town  "), "end(5) 5; town() -4; fault(1) 5");
        for (String full : new String[] {" ", "a", "7", ";", "$"}) {
            E.of(fed(full.repeat(800)), "count(7) 800; town() " + (full.equals(" ") ? 0 : -4) + "; fault(1) " + (full.equals(" ") ? -1 : 0));
        }
        E.of(fed("town days 1 home 0 odds " + "0".repeat(776)), "town() -4; fault(0) 1; fault(1) 800");
        E.of(fed("town" + " ".repeat(793) + "day"), "town() -4; fault(0) 1; fault(1) 797");
        E.of(fed("town days 17"), "end(11) 11; feed(0x20686f6d, 0x65203320, 0x6f646473, 0x20343b20, 0x20202020) 31; town() 1; count(0) 1; count(1) 3");
        E.of(fed(TOWN), "end(0) 0; town() 0; count(0) 0");
        E.of(Lead.TAPED.make(), "end(800) 800; count(7) 800; end(26) 26; town() 1");
        E.says(3, "NONE, and nothing happens, if it has not so many, or n is below 0.");
        E.of(fed(TOWN), "end(27) NONE; count(7) 26; end(5) 5; end(6) NONE; end(26) NONE; count(7) 5");
        E.of(new SlowNoon(), "end(0) 0; end(1) NONE; end(20) NONE; end(-1) NONE");
        E.stays("end(-1) NONE; end(MIN) NONE; end(MAX) NONE; end(801) NONE", Lead.values());
        E.stays("end(27) NONE", Lead.RICH, Lead.CLEARED);
        E.stays("end(1) NONE", Lead.NEW, Lead.FULL, Lead.BARE);
    }

    private static void towns() {
        E.says(4, "The TAPE (empty then) is the TOWN (in place of another), nothing done: how many LINES");
        SlowNoon x = Lead.RICH.make();
        E.of(x, "count(5) 4; town() 1; count(7) 0; count(5) 0; count(0) 1; count(1) 3; count(2) 2; count(3) 0; count(4) 0; count(6) 1; fault(0) 0; fault(1) NONE");
        // Rows and images are no part of the town.
        E.of(x, "count(8) 2; write(0, 3, 13) 0; write(0, 4, 13) -7; undo() -5; back(1) 0; count(5) 3; count(6) 7; clock(0, 3) 77");
        // A clock's own state is told anew: dead, oiled, stopped are no more.
        x = E.of(Lead.street(), "enter(0, 0, 1) 0; stop(1, 0) 15; oil(2, 0) -6; rate(0, 5) -5; count(5) 3");
        Due.feed(x, Lead.STREET);
        E.of(x, "town() 7; counts(0) 7; late(1, 0) 15; late(2, 2) -4; count(5) 0; clock(3, 4) 1");
        Due.feed(x, "town days 1 home 0 odds 0;clock at 0 late 1 loses 1 rent 1;clock at 0 late 1 loses 1 rent 1;"
            + "clock at 0 late 1 loses 1 rent 1;clock at 0 late 1 loses 1 rent 1;");
        E.of(x, "town() 5; counts(0) 15; clock(3, 4) 0; register(0) 0; waits() 0; count(4) 0; noon(1) -1000");
        E.says(4, "(0: there is none then).");
        x = E.of(Lead.RICH.make(), "end(0) 0; town() 0; waits() -2; noon(0) -1000; undo() -2; anew() -2; count(0) 0; count(3) 0; count(5) 0; count(6) 0; count(8) 2");
        E.of(x, "late(0, 0) -1000; clock(0, 0) -1000; fault(0) 0; fault(1) NONE; back(0) 0; count(6) 7");
        x = Lead.RICH.make();
        Due.feed(x, " \n  \n ");
        E.of(x, "town() 0; count(7) 0; waits() -2; count(6) 0");
        E.of(Lead.RICH.make(), "town() 1; town() 0; count(0) 0; town() 0");
        E.says(4, "-4: a FAULT (all stays).");
        for (String text : new String[] {"town", "?", "town days 8", TOWN + CLOCK.repeat(7), TOWN + TRADE.repeat(6), TOWN + CLOCK + "trade waits 100;", TOWN + "clock at 5 late 9 loses 9 rent 9"}) {
            x = Lead.RICH.make();
            Due.feed(x, text);
            int n = text.length();
            E.of(x, "town() -4; count(7) " + n + "; count(0) 3; count(1) 2; count(2) 5; count(3) 4; count(4) 2; count(5) 4; count(6) 7; count(8) 2; town() -4; count(7) " + n);
            E.of(x, "clock(0, 0) 0; clock(0, 1) 10; clock(0, 3) 77; clock(3, 4) 1; late(0, 2) 13; late(1, 2) 0; counts(0) 7; counts(1) 15; counts(2) 14; undo() 3; counts(2) 15; back(0) 0; count(5) 0");
            // What stands on the tape still can be gone on with.
            E.of(new SlowNoon(), "feed(0x746f776e, 0x20646179, 0x73203120, 0x686f6d65, 0x2030206f) 20; town() -4; count(7) 20; feed(0x64647320, 0x303b2020, 0x20202020, 0x20202020, 0x20202020) 40; town() 1; count(7) 0");
        }
        E.stays("town() -4", Lead.FAULTY);
    }

    private static void faultsTold() {
        E.says(5, "Of the latest town(), what 0: its FAULT, 0 without, 1: its place (NONE without).");
        SlowNoon x = fed("town days 8");
        E.of(x, "town() -4; fault(0) 2; fault(1) 10; end(4) 4; fault(0) 2; fault(1) 10; town() -4; fault(0) 1; fault(1) 4; end(0) 0; fault(1) 4; town() 0; fault(0) 0; fault(1) NONE");
        Due.feed(x, TOWN + CLOCK.repeat(7));
        E.of(x, "fault(0) 0; fault(1) NONE; town() -4; fault(0) 3; fault(1) 224");
        Due.feed(x, TOWN);
        E.of(x, "fault(0) 3; town() 1; fault(0) 0; fault(1) NONE");
        E.of(fed("?"), "town() -4; fault(0) 1; fault(1) 0; image(0) 0; back(0) 0; fault(0) 1; fault(1) 0");
        E.says(5, "NONE for another what, and ahead of any (what 1).");
        E.of(new SlowNoon(), "fault(0) 0; fault(1) NONE; fault(2) NONE; fault(-1) NONE; fault(MIN) NONE; fault(MAX) NONE");
        E.of(Lead.RICH.make(), "fault(0) 2; fault(1) 10; fault(2) NONE; fault(-1) NONE; fault(3) NONE; fault(256) NONE; fault(MIN) NONE; fault(MAX) NONE");
        E.stays("fault(0) 2; fault(1) 10; fault(2) NONE", Lead.RICH);
    }

    private static void clocks() {
        E.says(6, "Of a CLOCK as told, what 0: PLACE, 1: late (below 0: early), 2: loses (below 0: gains), 3: rent, 4: 1 if it is dead, else 0.");
        int[][] told = {{0, 10, 3, 100, 0}, {5, 15, 0, 50, 0}, {9, -6, 1, 30, 0}, {4, 20, -2, 70, 1}};
        SlowNoon x = Lead.street();
        for (int c = 0; c < 4; c++) {
            for (int what = 0; what < 5; what++) {
                E.of(x, "clock(" + c + ", " + what + ") " + told[c][what]);
            }
        }
        // As told: acts change nothing of it.
        E.of(x, "mend(0, 0) 10; oil(0, 0) 0; enter(0, 0, 1) 0; enter(3, 0, 0) 1; stop(2, 0) -6; clock(0, 1) 10; clock(0, 2) 3; clock(0, 4) 0; clock(3, 4) 1; clock(2, 1) -6");
        E.says(6, "-1,000: there are none such.");
        E.stays("clock(4, 0) -1000; clock(5, 0) -1000; clock(6, 0) -1000; clock(-1, 0) -1000; clock(MIN, 0) -1000; clock(MAX, 0) -1000;"
            + "clock(0, 5) -1000; clock(0, -1) -1000; clock(0, MIN) -1000; clock(0, MAX) -1000; clock(4, 5) -1000", Lead.RICH);
        E.stays("clock(0, 0) -1000; clock(0, 4) -1000", Lead.NEW, Lead.BARE, Lead.CLEARED);
    }

    private static void counts() {
        E.says(68, "0 DAYS, 1 home, 2 odds, 3 CLOCKS, 4 TRADES, 5 acts, 6 LINES, 7 bytes of the TAPE, 8 SLOTS that have a row.");
        E.stays("count(0) 3; count(1) 2; count(2) 5; count(3) 4; count(4) 2; count(5) 4; count(6) 7; count(7) 26; count(8) 2", Lead.RICH);
        E.stays("count(0) 0; count(1) 0; count(2) 0; count(3) 0; count(4) 0; count(5) 0; count(6) 0; count(7) 26; count(8) 2", Lead.CLEARED);
        E.stays("count(0) 3; count(5) 40; count(7) 0; count(8) 0", Lead.FULL);
        E.stays("count(0) 2; count(1) 0; count(2) 3; count(3) 0; count(4) 0; count(5) 0; count(6) 1; count(7) 0; count(8) 2", Lead.BARE);
        E.stays("count(7) 800", Lead.TAPED);
        E.of(new SlowNoon(), "row(3, 0, 0) 0; count(8) 1; row(0, 0, 1) 0; row(1, 3, 60) 0; row(2, 1, 2) 0; count(8) 4; row(2, 0, 0) 0; count(8) 4");
        E.says(68, "NONE for others.");
        E.stays("count(9) NONE; count(-1) NONE; count(10) NONE; count(256) NONE; count(MIN) NONE; count(MAX) NONE", Lead.NEW, Lead.RICH);
    }

    public static void main(String[] args) throws IOException {
        lines();
        numbers();
        tokens();
        faults();
        slots();
        tape();
        ends();
        towns();
        faultsTold();
        clocks();
        counts();
        E.close();
    }
}
