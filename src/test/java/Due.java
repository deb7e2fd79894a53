/** What the tests share: answers that are due, and texts put on a tape. */
final class Due {
    private int wrong = 0;
    private int asked = 0;

    void due(int promise, String call, long got, long want) {
        due("promise " + promise + ": " + call, got, want);
    }

    void due(String call, long got, long want) {
        asked++;
        if (got != want) {
            wrong++;
            System.out.println(call + " answered " + got + ", due is " + want);
        }
    }

    /** Ends the test: exit code 1, if an answer was wrong or none was asked. */
    void close(String test) {
        System.out.println(test + ": " + asked + " answers, " + wrong + " not as due");
        if (wrong != 0 || asked == 0) {
            System.exit(1);
        }
    }

    static int word(byte[] bytes, int from) {
        int word = 0;
        for (int i = from; i < from + 4; i++) {
            word = word << 8 | (i < bytes.length ? bytes[i] & 255 : 0);
        }
        return word;
    }

    static byte[] bytes(String text) {
        return text.getBytes(java.nio.charset.StandardCharsets.ISO_8859_1);
    }

    /** Puts a text on an empty tape. */
    static void feed(SlowNoon x, String text) {
        x.end(0);
        byte[] b = bytes(text);
        for (int i = 0; i < b.length; i += 20) {
            x.feed(word(b, i), word(b, i + 4), word(b, i + 8), word(b, i + 12), word(b, i + 16));
        }
        x.end(b.length);
    }

    static SlowNoon told(String text) {
        SlowNoon x = new SlowNoon();
        feed(x, text);
        if (x.town() < 0) {
            throw new IllegalStateException("no town: " + text);
        }
        return x;
    }

    static void fill(SlowNoon x, int slot, int width, long... numbers) {
        x.row(slot, width, numbers.length);
        for (int i = 0; i < numbers.length; i++) {
            x.write(slot, i, numbers[i]);
        }
    }
}
