import java.io.IOException;
import java.lang.reflect.InvocationTargetException;
import java.lang.reflect.Method;
import java.nio.file.Files;
import java.nio.file.Path;
import java.util.ArrayList;
import java.util.HashMap;
import java.util.LinkedHashMap;
import java.util.List;
import java.util.Map;
import java.util.regex.Matcher;
import java.util.regex.Pattern;

/**
 * Tests by the document's own sentences: each is quoted, then asked of the class by short scripts. At the
 * end no sentence of the parts that a test is of may be left without a quote, and no quote without an answer.
 */
final class Edges {
    private static final Pattern CALL = Pattern.compile("\\s*(\\w+)\\(([^)]*)\\)\\s+(\\S+)\\s*");
    private static final Map<String, Method> METHODS = new HashMap<>();

    static {
        for (Method m : SlowNoon.class.getDeclaredMethods()) {
            METHODS.put(m.getName(), m);
        }
    }

    private final String test;
    private final Map<String, List<String>> quotes = new LinkedHashMap<>();
    private String part = "";
    private String sentence = "";
    private int askedOfSentence = 1;
    private int asked = 0;
    private int wrong = 0;

    /** The parts are the document's: "I" for a term, "13" for a promise, "14-18" for some. */
    Edges(String test, String... parts) {
        this.test = test;
        for (String p : parts) {
            Matcher range = Pattern.compile("(\\d+)-(\\d+)").matcher(p);
            if (range.matches()) {
                for (int n = Integer.parseInt(range.group(1)); n <= Integer.parseInt(range.group(2)); n++) {
                    quotes.put("" + n, new ArrayList<>());
                }
            } else {
                quotes.put(p, new ArrayList<>());
            }
        }
    }

    void says(int promise, String words) {
        says("" + promise, words);
    }

    void says(String newPart, String words) {
        needAnswers();
        part = newPart;
        sentence = words;
        askedOfSentence = 0;
        if (quotes.containsKey(part)) {
            quotes.get(part).add(words);
        } else {
            blame("is no part of this test");
        }
    }

    private void needAnswers() {
        if (askedOfSentence == 0) {
            blame("no answer is asked of it");
        }
    }

    private void blame(String what) {
        wrong++;
        System.out.println(part + " \"" + sentence + "\": " + what);
    }

    void due(String call, long got, long want) {
        asked++;
        askedOfSentence++;
        if (got != want) {
            blame(call + " answered " + got + ", due is " + want);
        }
    }

    /** A script has calls with the answers that are due: "stop(2, 0) -6; gap(0) NEVER". */
    SlowNoon of(SlowNoon x, String script) {
        for (String step : script.split(";")) {
            Matcher m = call(step);
            due(step.trim().replaceAll("\\s+\\S+$", ""), ask(x, step), number(m.group(3)));
        }
        return x;
    }

    SlowNoon of(String text, String script) {
        return of(Due.told(text), script);
    }

    /** Each of the calls alone, on objects led to each state: its answer, and that nothing else has changed. */
    void stays(String script, Lead... leads) {
        for (Lead lead : leads) {
            for (String step : script.split(";")) {
                long want = number(call(step).group(3));
                due(step.trim() + " of " + lead, ask(lead.make(), step), want);
                String changed = Probe.change(lead, x -> ask(x, step));
                asked++;
                if (!changed.isEmpty()) {
                    blame(step.trim() + " of " + lead + " changed what others answer: " + changed);
                }
            }
        }
    }

    /** A call with a % where a day stands: no such day, in each state; the states' days are known. */
    void noDay(String call, String want) {
        for (String day : new String[] {"3", "-1", "4", "7", "8", "32", "MIN", "MAX"}) {
            stays(call.replace("%", day) + " " + want, Lead.RICH);
        }
        stays(call.replace("%", "2") + " " + want, Lead.BARE);
        noTown(call.replace("%", "0"), want);
    }

    /** A call with a % where a clock stands: no such clock, in each state. */
    void noClock(String call, String want) {
        for (String clock : new String[] {"4", "-1", "5", "6", "32", "MIN", "MAX"}) {
            stays(call.replace("%", clock) + " " + want, Lead.RICH);
        }
        stays(call.replace("%", "0") + " " + want, Lead.BARE);
        noTown(call.replace("%", "0"), want);
    }

    void noTown(String call, String want) {
        stays(call + " " + want, Lead.NEW, Lead.CLEARED, Lead.TAPED);
    }

    /** A call with a % where a slot stands, 0 .. 3. */
    void noSlot(String call, String want) {
        for (String slot : new String[] {"4", "-1", "5", "32", "256", "MIN", "MAX"}) {
            stays(call.replace("%", slot) + " " + want, Lead.RICH);
        }
    }

    /** A call with a % where a minute stands, 0 .. 600. */
    void noMinute(String call, String want) {
        for (String m : new String[] {"-1", "601", "-600", "1000", "10000", "65536", "MIN", "MAX"}) {
            stays(call.replace("%", m) + " " + want, Lead.RICH, Lead.BARE);
        }
    }

    private static Matcher call(String step) {
        Matcher m = CALL.matcher(step);
        if (!m.matches()) {
            throw new IllegalArgumentException("no call with its answer: " + step);
        }
        return m;
    }

    private static long number(String word) {
        switch (word) {
            case "NONE": return -1;
            case "NEVER": return 10000;
            case "MIN": return Integer.MIN_VALUE;
            case "MAX": return Integer.MAX_VALUE;
            default: return Long.decode(word);
        }
    }

    static int ask(SlowNoon x, String step) {
        Matcher m = call(step);
        Method method = METHODS.get(m.group(1));
        String[] words = m.group(2).isBlank() ? new String[0] : m.group(2).split(",");
        Object[] args = new Object[words.length];
        for (int i = 0; i < words.length; i++) {
            long n = number(words[i].trim());
            args[i] = method.getParameterTypes()[i] == long.class ? (Object) n : (Object) (int) n;
        }
        try {
            return (Integer) method.invoke(x, args);
        } catch (InvocationTargetException e) {
            throw new IllegalStateException(step + " threw", e.getCause());
        } catch (IllegalAccessException e) {
            throw new IllegalStateException(step, e);
        }
    }

    // ---- the document ----

    // Another document than the one that is quoted is no fault of the class: its sentences are not looked for then.
    private static final int QUOTED_DOCUMENT = 823767924;

    private static Map<String, String> documentParts() throws IOException {
        Map<String, String> parts = new HashMap<>();
        Path file = Path.of("../shared/DOC.md");
        String doc = Files.exists(file) ? Files.readString(file) : "";
        if (doc.hashCode() != QUOTED_DOCUMENT) {
            System.out.println("the document is not the one that is quoted (" + doc.hashCode() + ")");
            return parts;
        }
        String terms = doc.substring(doc.indexOf("## Terms"), doc.indexOf("## Promise 1:")).replaceAll("```\\w*", "");
        Matcher term = Pattern.compile("(?ms)^([IV]+)\\. (.*?)(?=^[IV]+\\. |\\z)").matcher(terms);
        while (term.find()) {
            parts.put(term.group(1), plain(term.group(2)));
        }
        Matcher promise = Pattern.compile("(?s)## Promise (\\d+): [^`]*`[^`]*`:(.*?)(?=## )").matcher(doc);
        while (promise.find()) {
            parts.put(promise.group(1), plain(promise.group(2)));
        }
        return parts;
    }

    private static String plain(String text) {
        return text.replaceAll("\\s+", " ").trim();
    }

    private void lookForSentences() throws IOException {
        Map<String, String> parts = documentParts();
        for (Map.Entry<String, List<String>> e : quotes.entrySet()) {
            part = e.getKey();
            if (parts.isEmpty()) {
                return;
            }
            StringBuilder left = new StringBuilder(parts.getOrDefault(part, ""));
            for (String quote : e.getValue()) {
                sentence = quote;
                int at = left.indexOf(quote);
                if (at < 0) {
                    blame("the document does not say so there");
                } else {
                    left.replace(at, at + quote.length(), "#".repeat(quote.length()));
                }
            }
            sentence = left.toString().replaceAll("#+", "#");
            if (!sentence.matches("[# .:;,]+")) {
                blame("some of it has no test");
            }
        }
    }

    void close() throws IOException {
        needAnswers();
        lookForSentences();
        System.out.println(test + ": " + asked + " answers, " + wrong + " wrong");
        if (wrong != 0 || asked == 0) {
            System.exit(1);
        }
    }
}
