import java.io.IOException;
import java.lang.reflect.Constructor;
import java.lang.reflect.Field;
import java.lang.reflect.Method;
import java.lang.reflect.Modifier;
import java.nio.file.Files;
import java.nio.file.Path;
import java.util.ArrayList;
import java.util.List;
import java.util.Set;
import java.util.TreeSet;
import java.util.regex.Matcher;
import java.util.regex.Pattern;

/** Whether the class has the face that the document writes out, and nothing beside it. */
final class FaceHolds {
    private static final Path SOURCE = Path.of("src/main/java/BarrowNights.java");

    private FaceHolds() {
    }

    /** The whole block: its head, its constants with their values, its constructor, its methods. */
    static void block(String written) {
        Class<?> face = BarrowNights.class;
        Due.holds("the head is told", written.startsWith("public final class BarrowNights {"));
        Due.is("the head", face.getModifiers(), Modifier.PUBLIC | Modifier.FINAL);
        Due.holds("no package", face.getPackageName().isEmpty());
        Set<String> told = new TreeSet<>();
        for (String part : written.substring(written.indexOf('{') + 1).split("[;}]")) {
            if (part.contains("=")) told.addAll(constants(part.strip()));
            else if (!part.isBlank()) told.add(part.strip().replaceAll("\\b(int|long) \\w+(?=[,)])", "$1"));
        }
        Set<String> open = openMembers(face);
        Due.is("a constructor, 29 methods, 6 constants", told.size(), 36);
        Due.holds("the class has " + open + ", told are " + told, open.equals(told));
    }

    private static List<String> constants(String part) {
        Matcher head = Pattern.compile("(public static final (?:int|long)) (.*)").matcher(part);
        List<String> all = new ArrayList<>();
        Due.holds("constants are told: " + part, head.matches());
        if (!head.matches()) return all;
        for (String one : head.group(2).split(", ")) {
            all.add(head.group(1) + " " + one.replace("Long.MIN_VALUE", Long.toString(Long.MIN_VALUE)));
        }
        return all;
    }

    private static Set<String> openMembers(Class<?> face) {
        Set<String> open = new TreeSet<>();
        for (Field f : face.getDeclaredFields()) {
            if (!Modifier.isPrivate(f.getModifiers())) open.add(Modifier.toString(f.getModifiers()) + " " + f.getType() + " " + f.getName() + " = " + valueOf(f));
        }
        for (Constructor<?> made : face.getDeclaredConstructors()) {
            open.add(Modifier.toString(made.getModifiers()) + " " + made.getName() + taken(made.getParameterTypes()));
        }
        for (Method m : face.getDeclaredMethods()) {
            if (!Modifier.isPrivate(m.getModifiers())) {
                open.add(Modifier.toString(m.getModifiers()) + " " + m.getReturnType() + " " + m.getName() + taken(m.getParameterTypes()));
            }
        }
        return open;
    }

    private static Object valueOf(Field constant) {
        try {
            return constant.get(null);
        } catch (IllegalAccessException e) {
            return e;
        }
    }

    private static String taken(Class<?>[] types) {
        List<String> names = new ArrayList<>();
        for (Class<?> type : types) names.add(type.getName());
        return "(" + String.join(", ", names) + ")";
    }

    /** The public methods behind such a heading in the class, up to the next one. */
    static void behind(String heading, String... calls) {
        List<String> found = new ArrayList<>();
        boolean here = false;
        for (String line : source()) {
            if (line.strip().startsWith("// ---- ")) here = line.strip().equals("// " + heading);
            Matcher m = Pattern.compile(" {4}public (?:int|long) (\\w+)\\(.*").matcher(line);
            if (here && m.matches()) found.add(m.group(1));
        }
        Due.holds("behind " + heading + " stand " + found, found.equals(List.of(calls)));
    }

    private static List<String> source() {
        try {
            return Files.readAllLines(SOURCE);
        } catch (IOException e) {
            return List.of();
        }
    }
}
