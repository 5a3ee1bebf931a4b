import java.io.IOException;
import java.lang.reflect.Constructor;
import java.lang.reflect.Field;
import java.lang.reflect.Method;
import java.lang.reflect.Modifier;
import java.nio.file.Files;
import java.nio.file.Path;
import java.util.ArrayList;
import java.util.Arrays;
import java.util.List;
import java.util.Set;
import java.util.TreeSet;
import java.util.regex.Matcher;
import java.util.regex.Pattern;

/** The rules of LANGUAGE.md that can be read off the class and its file, and the face of the document. */
public final class RulesTest {
    private static final String[] FACE = {
        "int down(int,int,int,int)", "int ofBarrow(int,int)", "int ofWalker(int,int)", "int charge(int,int)", "int earn(int,int)",
        "int lodge(int,int)", "int leave(int)", "int night(int)", "int season(int,int,int,int,int)", "int housed(int)", "int ploughed(int)",
        "int way(int,int)", "int lain(int,int,int,int)", "int reading(int,int,int)", "int back(int)", "int rooms(int)", "int kinds(int)",
        "long odds(int,int)", "int sheet(int,int,int)", "int lose(int)", "int put(int,int,int)", "long cell(int,int,int)",
        "int copy(int,int,int,int,int)", "int tell(int)", "int haunt(int)", "int as(int,int)", "int trace()", "int fault()", "int many(int)",
    };

    public static void main(String[] args) throws IOException {
        faceIsTheDocuments();
        constants();
        insideClasses();
        String code = withoutComments(Files.readString(Path.of("src/main/java/BarrowNights.java")));
        forbiddenWords(code);
        methodsAreShort(code);
        Due.end();
    }

    private static void faceIsTheDocuments() {
        Class<?> face = BarrowNights.class;
        Due.holds("public and final", Modifier.isPublic(face.getModifiers()) && Modifier.isFinal(face.getModifiers()));
        Due.holds("no package", face.getPackageName().isEmpty());
        Set<String> found = new TreeSet<>();
        for (Method m : face.getDeclaredMethods()) {
            if (Modifier.isPrivate(m.getModifiers())) continue;
            Due.is("modifiers of " + m.getName(), m.getModifiers(), Modifier.PUBLIC);
            List<String> takes = new ArrayList<>();
            for (Class<?> type : m.getParameterTypes()) takes.add(type.getName());
            found.add(m.getReturnType().getName() + " " + m.getName() + "(" + String.join(",", takes) + ")");
        }
        Due.holds("the methods are the document's: " + found, found.equals(new TreeSet<>(Arrays.asList(FACE))));
        Constructor<?>[] made = face.getDeclaredConstructors();
        Due.is("constructors", made.length, 1);
        Due.is("its modifiers", made[0].getModifiers(), Modifier.PUBLIC);
        Due.is("its parameters", made[0].getParameterCount(), 0);
    }

    private static void constants() {
        Due.is("UNKNOWN", BarrowNights.UNKNOWN, -1);
        Due.is("OUTSIDE", BarrowNights.OUTSIDE, -2);
        Due.is("STATE", BarrowNights.STATE, -3);
        Due.is("FULL", BarrowNights.FULL, -4);
        Due.is("NONE", BarrowNights.NONE, -9);
        Due.is("LOST", BarrowNights.LOST, Long.MIN_VALUE);
        Set<String> open = new TreeSet<>();
        for (Field f : BarrowNights.class.getDeclaredFields()) {
            if (!Modifier.isPrivate(f.getModifiers())) open.add(f.getName());
        }
        Due.holds("no other open field: " + open, open.equals(Set.of("UNKNOWN", "OUTSIDE", "STATE", "FULL", "NONE", "LOST")));
    }

    private static void insideClasses() {
        List<Class<?>> all = new ArrayList<>(Arrays.asList(BarrowNights.class.getDeclaredClasses()));
        Due.holds("at most twelve classes", all.size() < 12);
        Set<String> names = new TreeSet<>();
        for (String method : FACE) names.add(method.substring(method.indexOf(' ') + 1, method.indexOf('(')));
        for (Class<?> one : all) Due.holds(one + " is static", Modifier.isStatic(one.getModifiers()));
        all.add(BarrowNights.class);
        for (Class<?> one : all) {
            int fields = 0;
            for (Field f : one.getDeclaredFields()) {
                boolean constant = Modifier.isStatic(f.getModifiers());
                Due.holds(f + " is final, if static", !constant || Modifier.isFinal(f.getModifiers()));
                if (!constant) fields++;
            }
            Due.holds("at most twenty fields in " + one, fields <= 20);
            for (Method m : one.getDeclaredMethods()) {
                Due.holds("at most seven parameters: " + m, m.getParameterCount() <= 7);
                Due.holds("no private method bears a public name: " + m, Modifier.isPublic(m.getModifiers()) || !names.contains(m.getName()));
                Due.holds("no lambda: " + m, !m.isSynthetic());
            }
        }
    }

    private static String withoutComments(String code) {
        return code.replaceAll("(?s)/\\*.*?\\*/", "").replaceAll("//[^\n]*", "");
    }

    private static void forbiddenWords(String code) {
        String[] words = {
            "import", "package", "throw", "throws", "try", "catch", "finally", "synchronized", "assert", "native", "volatile", "transient",
            "protected", "Object", "Class", "Thread", "Random", "Runtime", "hashCode", "toString", "var", "yield", "goto", "\\w+Exact",
        };
        for (String word : words) {
            Due.holds("no " + word, !Pattern.compile("\\b" + word + "\\b").matcher(code).find());
        }
        Due.holds("no lambda", !code.contains("->"));
        Due.holds("no method reference", !code.contains("::"));
        Due.holds("no annotation", !code.contains("@"));
        Due.holds("no static block", !Pattern.compile("\\bstatic\\s*\\{").matcher(code).find());
        Due.holds("of System arraycopy alone", !Pattern.compile("\\bSystem\\.(?!arraycopy\\b)").matcher(code).find());
        Due.holds("signs are plain", code.chars().allMatch(c -> c < 128));
    }

    /** A method's head and end stand at the same depth, so its length can be read off the lines. */
    private static void methodsAreShort(String code) {
        Matcher m = Pattern.compile("(?m)^( +)(?:public|private)[^;=\n]*\\) \\{\n(?s:.*?)\n\\1\\}").matcher(code);
        int count = 0;
        while (m.find()) {
            count++;
            Due.holds("a method of at most sixty lines", m.group().lines().count() <= 60);
        }
        Due.holds("methods were found", count > FACE.length);
    }
}
