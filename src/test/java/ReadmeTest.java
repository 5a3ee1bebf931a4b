import java.io.IOException;
import java.net.URL;
import java.net.URLClassLoader;
import java.nio.file.Files;
import java.nio.file.Path;
import java.util.ArrayList;
import java.util.Comparator;
import java.util.List;
import java.util.regex.Matcher;
import java.util.regex.Pattern;
import java.util.stream.Stream;
import javax.tools.ToolProvider;

/** What README.md shows of the class's answers is what the class answers: its lines are compiled and run. */
public final class ReadmeTest {
    private static final Pattern SHOWN = Pattern.compile("(x\\.\\w+\\(.*\\)); +// (-?\\d+|[A-Z]+): .*");
    private static final Pattern CALL = Pattern.compile("x\\.\\w+\\(.*");

    private static final List<String> CALLS = new ArrayList<>();
    private static final List<String> ANSWERS = new ArrayList<>();

    public static void main(String[] args) throws Exception {
        String example = example(Files.readAllLines(Path.of("README.md")));
        Due.holds("calls are shown", CALLS.size() > 20);
        Path where = Files.createTempDirectory("readme");
        try {
            long[] got = run(where, example);
            Due.is("as many answers as are shown", got.length, CALLS.size());
            for (int i = 0; i < got.length; i++) Due.is("README: " + CALLS.get(i), got[i], number(ANSWERS.get(i)));
        } finally {
            remove(where);
        }
        Due.end();
    }

    /** The lines that are told as Java, one behind another; each call with an answer shown leaves what it answered. */
    private static String example(List<String> page) {
        StringBuilder code = new StringBuilder();
        boolean inside = false;
        for (String line : page) {
            Matcher shown = SHOWN.matcher(line);
            if (line.startsWith("```")) {
                inside = line.equals("```java");
            } else if (inside && shown.matches()) {
                code.append("got[n++] = ").append(shown.group(1)).append(";\n");
                CALLS.add(shown.group(1));
                ANSWERS.add(shown.group(2));
            } else if (inside) {
                Due.holds("a call shows its answer: " + line, !CALL.matcher(line).matches());
                code.append(line).append('\n');
            }
        }
        return "public final class Shown { public static long[] all() { long[] got = new long[" + CALLS.size() + "]; int n = 0;\n"
            + code + "return got; } }\n";
    }

    private static long[] run(Path where, String example) throws Exception {
        Path file = where.resolve("Shown.java");
        Files.writeString(file, example);
        int went = ToolProvider.getSystemJavaCompiler().run(null, null, null,
            "-cp", System.getProperty("java.class.path"), "-d", where.toString(), file.toString());
        Due.is("README's lines compile", went, 0);
        if (went != 0) return new long[0];
        try (URLClassLoader loader = new URLClassLoader(new URL[] {where.toUri().toURL()})) {
            return (long[]) loader.loadClass("Shown").getMethod("all").invoke(null);
        }
    }

    private static long number(String shown) throws ReflectiveOperationException {
        if (shown.matches("-?\\d+")) return Long.parseLong(shown);
        return ((Number) BarrowNights.class.getField(shown).get(null)).longValue();
    }

    private static void remove(Path where) throws IOException {
        try (Stream<Path> all = Files.walk(where)) {
            for (Path one : all.sorted(Comparator.reverseOrder()).toList()) Files.delete(one);
        }
    }
}
