import java.io.PrintWriter;
import java.io.StringWriter;
import java.util.ArrayList;
import java.util.List;
import java.util.Map;
import java.util.Set;
import java.util.TreeMap;
import java.util.TreeSet;
import java.util.regex.Matcher;
import java.util.regex.Pattern;
import java.util.spi.ToolProvider;

/**
 * What the compiled class calls and makes, as javap tells it: the library's part that LANGUAGE.md lists (rule 4),
 * recursion where it is meant alone (8), few calls that stand open at once (11), nothing made but by constructors (12).
 */
public final class CallsTest {
    private static final Set<String> LIBRARY = Set.of("java/lang/Object.<init>", "java/lang/Math.max", "java/lang/Math.min",
        "java/lang/Math.abs", "java/lang/Integer.bitCount", "java/lang/String.length", "java/lang/String.charAt", "java/lang/System.arraycopy");
    private static final Set<String> RECURSIVE = Set.of("SlowNoon$Mender.seek", "SlowNoon$Bellman.seek");
    private static final int DEEPEST = 8;

    private static final Pattern TYPE = Pattern.compile("^(?:\\w+ )*class (\\S+) .*\\{$");
    private static final Pattern METHOD = Pattern.compile("^  \\S.*?([\\w$]+)\\(.*\\).*;$");
    private static final Pattern CALL = Pattern.compile("invoke\\w+ .*// (?:Interface)?Method (?:([\\w/$]+)\\.)?\"?([\\w<>]+)\"?:");
    private static final Pattern MAKING = Pattern.compile("\\d+: (new|newarray|anewarray|multianewarray) ");
    private static final Pattern RULED_OUT = Pattern.compile("\\d+: (athrow|monitorenter|invokedynamic|instanceof|checkcast|[fd](add|sub|mul|div|rem)) ?");

    private static final Map<String, Set<String>> CALLS = new TreeMap<>();
    private static int wrong = 0;

    private static void hold(boolean good, String what) {
        if (!good) {
            wrong++;
            System.out.println("not held: " + what);
        }
    }

    private static String listing(ToolProvider javap) {
        List<String> words = new ArrayList<>(List.of("-c", "-p", "-cp", System.getProperty("java.class.path"), "SlowNoon"));
        for (Class<?> c : SlowNoon.class.getDeclaredClasses()) {
            words.add(c.getName());
        }
        StringWriter out = new StringWriter();
        PrintWriter printer = new PrintWriter(out);
        javap.run(printer, printer, words.toArray(new String[0]));
        printer.flush();
        return out.toString();
    }

    private static void read(String listing) {
        String type = "";
        String method = "";
        for (String line : listing.split("\n")) {
            Matcher m = TYPE.matcher(line);
            if (m.find()) {
                type = m.group(1);
                continue;
            }
            m = METHOD.matcher(line);
            if (m.find()) {
                method = type + "." + (type.equals(m.group(1)) ? "<init>" : m.group(1));
                CALLS.putIfAbsent(method, new TreeSet<>());
                continue;
            }
            m = CALL.matcher(line);
            if (m.find()) {
                CALLS.get(method).add((m.group(1) == null ? type : m.group(1)) + "." + m.group(2));
            }
            hold(!MAKING.matcher(line).find() || method.endsWith(".<init>"), method + " makes nothing: " + line.trim());
            hold(!RULED_OUT.matcher(line).find(), method + " keeps to the rules: " + line.trim());
        }
    }

    private static void library() {
        for (Map.Entry<String, Set<String>> e : CALLS.entrySet()) {
            for (String called : e.getValue()) {
                hold(CALLS.containsKey(called) || LIBRARY.contains(called), e.getKey() + " calls what it may: " + called);
            }
        }
    }

    private static Set<String> reached(String method) {
        Set<String> seen = new TreeSet<>();
        List<String> open = new ArrayList<>(CALLS.get(method));
        while (!open.isEmpty()) {
            String next = open.remove(open.size() - 1);
            if (seen.add(next)) {
                open.addAll(CALLS.getOrDefault(next, Set.of()));
            }
        }
        return seen;
    }

    private static int depth(String method, Set<String> open) {
        int deepest = 0;
        for (String called : CALLS.getOrDefault(method, Set.of())) {
            if (open.add(called)) {
                deepest = Math.max(deepest, depth(called, open));
                open.remove(called);
            }
        }
        return deepest + 1;
    }

    public static void main(String[] args) {
        ToolProvider javap = ToolProvider.findFirst("javap").orElse(null);
        if (javap == null) {
            System.out.println("CallsTest: there is no javap here, so nothing is looked at");
            return;
        }
        read(listing(javap));
        hold(CALLS.size() > 150, "all methods are listed: " + CALLS.size());
        library();
        for (String method : CALLS.keySet()) {
            hold(!reached(method).contains(method) || RECURSIVE.contains(method), method + " does not come back to itself");
            int depth = depth(method, new TreeSet<>(Set.of(method)));
            hold(depth <= DEEPEST, method + " goes " + depth + " deep");
        }
        System.out.println("CallsTest: " + CALLS.size() + " methods, " + wrong + " rules not held");
        if (wrong != 0) {
            System.exit(1);
        }
    }
}
