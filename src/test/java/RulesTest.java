import java.io.IOException;
import java.lang.reflect.Field;
import java.lang.reflect.Method;
import java.lang.reflect.Modifier;
import java.nio.file.Files;
import java.nio.file.Path;
import java.util.ArrayList;
import java.util.Arrays;
import java.util.HashSet;
import java.util.List;
import java.util.Map;
import java.util.Set;
import java.util.TreeMap;
import java.util.TreeSet;
import java.util.regex.Matcher;
import java.util.regex.Pattern;

/** The rules of LANGUAGE.md that can be read off the class and its file, by their numbers; DocumentTest holds the face itself. */
public final class RulesTest {
    private static final String HEAD = "(?m)^( +)(?:public|private) (?:static )?(?:[\\w\\[\\]]+ )?(\\w+)\\([^;=\n]*\\) \\{\n";
    private static final Set<String> LIBRARY = Set.of("Integer.bitCount", "Long.MIN_VALUE", "Math.abs", "Math.max", "Math.min", "System.arraycopy");
    private static final Set<String> RECURSIVE = Set.of("place", "lay", "layIn");

    private static String code;
    private static final List<Class<?>> CLASSES = new ArrayList<>();

    public static void main(String[] args) throws IOException {
        code = withoutComments(Files.readString(Path.of("src/main/java/BarrowNights.java")));
        CLASSES.add(BarrowNights.class);
        CLASSES.addAll(Arrays.asList(BarrowNights.class.getDeclaredClasses()));
        rule1NoOtherOpenMember();
        rule2ClassesInside();
        rule3Types();
        rule4Library();
        rule5StaticFields();
        rule6Words();
        rule8Recursion();
        rule9Loops();
        rule11Sizes();
        rule12NothingIsMadeByACall();
        Due.end();
    }

    private static String withoutComments(String text) {
        return text.replaceAll("(?s)/\\*.*?\\*/", "").replaceAll("//[^\n]*", "");
    }

    private static Set<String> publicNames() {
        Set<String> names = new TreeSet<>();
        for (Method m : BarrowNights.class.getDeclaredMethods()) {
            if (Modifier.isPublic(m.getModifiers())) names.add(m.getName());
        }
        return names;
    }

    private static void rule1NoOtherOpenMember() {
        Set<String> names = publicNames();
        for (Class<?> one : CLASSES) {
            for (Method m : one.getDeclaredMethods()) {
                boolean isFace = one == BarrowNights.class && Modifier.isPublic(m.getModifiers());
                Due.holds("no method but the face's is open: " + m, isFace || Modifier.isPrivate(m.getModifiers()));
                Due.holds("no private method bears a public name: " + m, isFace || !names.contains(m.getName()));
            }
        }
    }

    private static void rule2ClassesInside() {
        for (Class<?> one : BarrowNights.class.getDeclaredClasses()) {
            int way = one.getModifiers();
            Due.holds(one + " is static", Modifier.isStatic(way));
            Due.holds(one + " is private or package-visible", !Modifier.isPublic(way) && !Modifier.isProtected(way));
            Due.is("no class inside " + one, one.getDeclaredClasses().length, 0);
        }
        Matcher m = Pattern.compile("\\b(?:class|enum|interface|record)\\b").matcher(code);
        Due.is("no local class", m.results().count(), CLASSES.size());
        Due.holds("no anonymous class", !Pattern.compile("\\bnew \\w+\\([^;]*\\) *\\{").matcher(code).find());
        Due.holds("no lambda", !code.contains("->"));
        Due.holds("no method reference", !code.contains("::"));
    }

    /** Each name with a great letter is one of the class's own, or of the library that is allowed. */
    private static void rule3Types() {
        Set<String> known = new HashSet<>(Set.of("Integer", "Long", "Math", "System", "MIN_VALUE"));
        for (Class<?> one : CLASSES) {
            known.add(one.getSimpleName());
            for (Field f : one.getDeclaredFields()) if (Modifier.isStatic(f.getModifiers())) known.add(f.getName());
        }
        Matcher m = Pattern.compile("\\b[A-Z]\\w*").matcher(code);
        while (m.find()) Due.holds("a known name: " + m.group(), known.contains(m.group()));
        Due.holds("no float, no double", !Pattern.compile("\\b(?:float|double)\\b").matcher(code).find());
        Due.holds("no rows of rows", !code.contains("[][]"));
        Due.holds("signs are plain", code.chars().allMatch(c -> c < 128));
    }

    private static void rule4Library() {
        Matcher m = Pattern.compile("\\b(?:Integer|Long|Math|System)\\.\\w+").matcher(code);
        int count = 0;
        while (m.find()) {
            count++;
            Due.holds("of the library: " + m.group(), LIBRARY.contains(m.group()));
        }
        Due.holds("the library is used", count > 0);
        Due.holds("no import", !Pattern.compile("\\b(?:import|package)\\b").matcher(code).find());
        Due.holds("no name in full", !Pattern.compile("\\bjavax?\\.").matcher(code).find());
    }

    private static void rule5StaticFields() {
        for (Class<?> one : CLASSES) {
            for (Field f : one.getDeclaredFields()) {
                if (!Modifier.isStatic(f.getModifiers())) continue;
                Due.holds(f + " is final", Modifier.isFinal(f.getModifiers()));
                Due.holds(f + " is a number", f.getType() == int.class || f.getType() == long.class);
            }
        }
        Due.holds("no static block", !Pattern.compile("\\bstatic\\s*\\{").matcher(code).find());
    }

    private static void rule6Words() {
        String[] words = {
            "throw", "throws", "try", "catch", "finally", "synchronized", "assert", "native", "volatile", "transient", "protected",
            "equals", "hashCode", "toString", "var", "yield", "instanceof", "null",
        };
        for (String word : words) Due.holds("no " + word, !Pattern.compile("\\b" + word + "\\b").matcher(code).find());
        Due.holds("no annotation", !code.contains("@"));
        Matcher m = Pattern.compile("\\((byte|short|long|[A-Za-z]\\w*)\\) \\w").matcher(code);
        while (m.find()) {
            boolean number = Set.of("byte", "short", "long").contains(m.group(1));
            boolean condition = code.substring(Math.max(0, m.start() - 4), m.start()).contains("if");
            Due.holds("a cast of numbers alone: " + m.group(), number || condition);
        }
    }

    /** Each method's name with what its body says; methods of one name are taken together. */
    private static Map<String, String> bodies() {
        Map<String, String> all = new TreeMap<>();
        Matcher m = Pattern.compile(HEAD + "((?s:.*?))\n\\1\\}").matcher(code);
        while (m.find()) all.merge(m.group(2), m.group(3), (one, other) -> one + "\n" + other);
        return all;
    }

    private static Map<String, Set<String>> calls() {
        Map<String, String> bodies = bodies();
        Map<String, Set<String>> all = new TreeMap<>();
        for (Map.Entry<String, String> one : bodies.entrySet()) {
            Set<String> called = new TreeSet<>();
            Matcher m = Pattern.compile("(?<!new )\\b(\\w+)\\(").matcher(one.getValue());
            while (m.find()) if (bodies.containsKey(m.group(1))) called.add(m.group(1));
            all.put(one.getKey(), called);
        }
        return all;
    }

    /** What calls itself, through others too, are the two searches alone: they go no deeper than there are WALKERS. */
    private static void rule8Recursion() {
        Map<String, Set<String>> calls = calls();
        Due.holds("the methods were found", calls.keySet().containsAll(publicNames()) && calls.size() > publicNames().size() + 30);
        for (String one : calls.keySet()) {
            Set<String> reached = new TreeSet<>(calls.get(one));
            for (int step = 0; step < 20; step++) {
                for (String next : List.copyOf(reached)) reached.addAll(calls.get(next));
            }
            Due.is("calls itself: " + one, reached.contains(one) ? 1 : 0, RECURSIVE.contains(one) ? 1 : 0);
        }
    }

    private static int depth(Map<String, Set<String>> calls, String from, int level) {
        int deepest = level;
        for (String next : calls.get(from)) {
            boolean again = RECURSIVE.contains(from) && RECURSIVE.contains(next);
            if (!again && level < 50) deepest = Math.max(deepest, depth(calls, next, level + 1));
        }
        return deepest;
    }

    private static void rule9Loops() {
        // A ';' that is a sign would be taken for one that parts a loop's head.
        String plain = code.replaceAll("'.'", "'s'");
        Due.holds("for alone", !Pattern.compile("\\b(?:while|do)\\b").matcher(plain).find());
        Matcher m = Pattern.compile("\\bfor \\(([^;]*);([^;]*);(.*)").matcher(plain);
        int count = 0;
        while (m.find()) {
            count++;
            Due.holds("a counter: " + m.group(), m.group(1).matches("int \\w+ = .*"));
            String counter = m.group(1).replaceAll("int (\\w+) = .*", "$1");
            Due.holds("against a bound: " + m.group(), m.group(2).strip().matches(counter + " (?:<|<=|>=) .*"));
            Due.holds("that goes on: " + m.group(), m.group(3).matches(" " + counter + "(?:\\+\\+|--)\\).*"));
        }
        Due.is("all loops were seen", count, Pattern.compile("\\bfor\\b").matcher(plain).results().count());
    }

    private static void rule11Sizes() {
        Map<String, Set<String>> calls = calls();
        for (String one : publicNames()) Due.holds("at most eight calls deep: " + one, depth(calls, one, 1) <= 8);
        Due.holds("at most twelve classes", CLASSES.size() <= 12);
        for (Class<?> one : CLASSES) {
            int fields = 0;
            for (Field f : one.getDeclaredFields()) if (!Modifier.isStatic(f.getModifiers())) fields++;
            Due.holds("at most twenty fields in " + one, fields <= 20);
            for (Method m : one.getDeclaredMethods()) Due.holds("at most seven parameters: " + m, m.getParameterCount() <= 7);
        }
        Matcher m = Pattern.compile(HEAD + "(?s:.*?)\n\\1\\}").matcher(code);
        while (m.find()) Due.holds("a method of at most sixty lines: " + m.group(2), m.group().lines().count() <= 60);
    }

    /** What there is is made with the object: in fields, or in the constructor. */
    private static void rule12NothingIsMadeByACall() {
        for (Map.Entry<String, String> one : bodies().entrySet()) {
            boolean makes = Pattern.compile("\\bnew\\b|\\.clone\\(|\\{[^;\n]*\\};|\"").matcher(one.getValue()).find();
            Due.is("makes something: " + one.getKey(), makes ? 1 : 0, one.getKey().equals("BarrowNights") ? 1 : 0);
        }
    }
}
