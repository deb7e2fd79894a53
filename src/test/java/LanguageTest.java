import java.io.IOException;
import java.lang.reflect.Field;
import java.lang.reflect.Method;
import java.lang.reflect.Modifier;
import java.nio.file.Files;
import java.nio.file.Path;
import java.util.ArrayList;
import java.util.List;
import java.util.Set;
import java.util.TreeSet;
import java.util.regex.Matcher;
import java.util.regex.Pattern;

/** The face of the class is the document's, and its source keeps to those rules of LANGUAGE.md that can be seen. */
public final class LanguageTest {
    private static int wrong = 0;

    private static void hold(boolean good, String what) {
        if (!good) {
            wrong++;
            System.out.println("not held: " + what);
        }
    }

    private static Set<String> documentFace() throws IOException {
        String doc = Files.readString(Path.of("../shared/DOC.md"));
        String face = doc.substring(doc.indexOf("```java"), doc.indexOf("## Terms"));
        Set<String> methods = new TreeSet<>();
        Matcher m = Pattern.compile("public int (\\w+)\\(([^)]*)\\);").matcher(face);
        while (m.find()) {
            methods.add(m.group(1) + "(" + m.group(2).replaceAll("(int|long) \\w+", "$1") + ")");
        }
        return methods;
    }

    private static void face() throws IOException {
        Set<String> methods = new TreeSet<>();
        for (Method m : SlowNoon.class.getDeclaredMethods()) {
            if (Modifier.isPrivate(m.getModifiers())) {
                continue;
            }
            hold(Modifier.isPublic(m.getModifiers()) && m.getReturnType() == int.class, m + " is public and answers an int");
            List<String> types = new ArrayList<>();
            for (Class<?> type : m.getParameterTypes()) {
                types.add(type.getName());
            }
            methods.add(m.getName() + "(" + String.join(", ", types) + ")");
        }
        hold(methods.equals(documentFace()), "the methods are the document's: " + methods);
        hold(methods.size() == 72, "72 methods, beside the constructor");
        for (Field f : SlowNoon.class.getDeclaredFields()) {
            boolean constant = f.getName().equals("NONE") || f.getName().equals("NEVER");
            hold(constant == Modifier.isPublic(f.getModifiers()), f + " is as visible as it should be");
            hold(constant || Modifier.isPrivate(f.getModifiers()), f + " is private");
        }
        hold(SlowNoon.NONE == -1 && SlowNoon.NEVER == 10000, "the constants");
        hold(Modifier.isFinal(SlowNoon.class.getModifiers()), "the class is final");
        hold(SlowNoon.class.getDeclaredConstructors().length == 1, "one constructor");
    }

    private static void classes() throws IOException {
        Set<String> names = new TreeSet<>();
        for (String m : documentFace()) {
            names.add(m.substring(0, m.indexOf('(')));
        }
        List<Class<?>> all = new ArrayList<>(List.of(SlowNoon.class.getDeclaredClasses()));
        hold(all.size() < 12, "at most twelve classes");
        for (Class<?> c : all) {
            hold(Modifier.isStatic(c.getModifiers()), c + " is static");
            for (Method m : c.getDeclaredMethods()) {
                hold(!names.contains(m.getName()), m + " bears a public one's name");
                hold(m.getParameterCount() <= 7, m + " takes at most seven");
            }
        }
        all.add(SlowNoon.class);
        for (Class<?> c : all) {
            int fields = 0;
            for (Field f : c.getDeclaredFields()) {
                boolean shared = Modifier.isStatic(f.getModifiers());
                fields += shared ? 0 : 1;
                hold(!shared || Modifier.isFinal(f.getModifiers()) && f.getType() == int.class, f + " is a constant");
            }
            hold(fields <= 20, c + " has at most twenty fields");
        }
        for (Method m : SlowNoon.class.getDeclaredMethods()) {
            hold(Modifier.isPublic(m.getModifiers()) || !names.contains(m.getName()), m + " bears a public one's name");
        }
    }

    private static void source() throws IOException {
        String text = Files.readString(Path.of("src/main/java/SlowNoon.java"));
        String code = text.replaceAll("(?s)/\\*.*?\\*/", "").replaceAll("//[^\n]*", "");
        for (String word : new String[] {"throw", "throws", "try", "catch", "finally", "synchronized", "assert", "import", "package", "var", "Exact", "instanceof", "Object", "yield"}) {
            hold(!Pattern.compile("\\b" + word + "\\b").matcher(code).find(), "no " + word);
        }
        hold(!code.contains("->") && !code.contains("::") && !code.contains("...") && !code.contains("@"), "no lambda and the like");
        hold(text.chars().allMatch(c -> c == 10 || c >= 32 && c < 127), "plain signs alone");
        int lines = 0;
        for (String line : text.split("\n")) {
            lines = line.matches("    (    )?\\}") ? 0 : lines + 1;
            hold(lines < 75, "methods stay short: " + line);
        }
    }

    public static void main(String[] args) throws IOException {
        face();
        classes();
        source();
        System.out.println("LanguageTest: " + wrong + " rules not held");
        if (wrong != 0) {
            System.exit(1);
        }
    }
}
