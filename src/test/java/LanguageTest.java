import java.lang.reflect.Constructor;
import java.lang.reflect.Field;
import java.lang.reflect.Method;
import java.lang.reflect.Modifier;
import java.nio.file.Files;
import java.nio.file.Path;
import java.util.ArrayList;
import java.util.List;
import java.util.Set;
import java.util.TreeSet;
import java.util.regex.Pattern;

// The public face of the document, and the rules of LANGUAGE.md that can be seen from outside.
public final class LanguageTest {
    private static int wrong;

    private static final String[] FACE = {
        "int clear()", "int post(int)", "int mark(int, int)", "int line(int, int)", "int lines(int, int, int, int)",
        "int swap(int, int, int)", "int end(int, int, int)", "int doubled(int, int)", "int about(int, int)",
        "int together()", "int rank(int, int)", "int rest()", "int ranks(int)", "int apart(int, int)", "int chosen()",
        "int flood(int, long)", "int flooded(int, int)", "int word(int)", "long lots(int, int)",
        "int sheet(int, int, int)", "int lose(int)", "int put(int, int, int)", "long cell(int, int, int)",
        "int copy(int, int, int, int, int)", "int tell(int)", "int hear(int)", "int as(int, int)", "int trace()",
        "int fault()", "int told(int)"};
    private static final Set<String> CONSTANTS = Set.of("UNKNOWN", "OUTSIDE", "STATE", "FULL", "NONE", "LOST");

    private static void hold(boolean holds, String what) {
        if (!holds) {
            wrong++;
            System.out.println("not held: " + what);
        }
    }

    public static void main(String[] args) throws Exception {
        Class<?> face = AlikePosts.class;
        hold(Modifier.isPublic(face.getModifiers()) && Modifier.isFinal(face.getModifiers()), "public and final");
        methods(face);
        fields(face);
        Constructor<?>[] made = face.getDeclaredConstructors();
        hold(made.length == 1 && Modifier.isPublic(made[0].getModifiers()) && made[0].getParameterCount() == 0, "one constructor");
        inside(face);
        words(Files.readString(Path.of("src/main/java/AlikePosts.java")));
        System.out.println(wrong == 0 ? "the face and the language are kept" : wrong + " rules are not held");
        if (wrong != 0) {
            System.exit(1);
        }
    }

    private static String line(Method m) {
        List<String> types = new ArrayList<>();
        for (Class<?> type : m.getParameterTypes()) {
            types.add(type.getName());
        }
        return m.getReturnType().getName() + " " + m.getName() + "(" + String.join(", ", types) + ")";
    }

    private static void methods(Class<?> face) {
        Set<String> open = new TreeSet<>();
        Set<String> names = new TreeSet<>();
        for (Method m : face.getDeclaredMethods()) {
            if (!Modifier.isPrivate(m.getModifiers())) {
                open.add(line(m));
                names.add(m.getName());
                hold(Modifier.isPublic(m.getModifiers()) && !Modifier.isStatic(m.getModifiers()), "public: " + m);
            }
        }
        hold(open.equals(new TreeSet<>(List.of(FACE))), "the methods of the face: " + open);
        for (Method m : face.getDeclaredMethods()) {
            hold(!Modifier.isPrivate(m.getModifiers()) || !names.contains(m.getName()), "a name of its own: " + m);
        }
        for (Class<?> part : face.getDeclaredClasses()) {
            for (Method m : part.getDeclaredMethods()) {
                hold(!names.contains(m.getName()), "a name of its own: " + m);
                hold(m.getParameterCount() <= 7, "seven parameters: " + m);
            }
        }
    }

    private static void fields(Class<?> face) {
        Set<String> open = new TreeSet<>();
        for (Field f : face.getDeclaredFields()) {
            if (!Modifier.isPrivate(f.getModifiers())) {
                open.add(f.getName());
                hold(f.getType() == (f.getName().equals("LOST") ? long.class : int.class), "type: " + f);
            }
            hold(!Modifier.isStatic(f.getModifiers()) || Modifier.isFinal(f.getModifiers()), "final: " + f);
        }
        hold(open.equals(CONSTANTS), "the constants of the face: " + open);
    }

    private static void inside(Class<?> face) {
        hold(face.getDeclaredClasses().length < 12, "some twelve classes");
        for (Class<?> part : face.getDeclaredClasses()) {
            int bits = part.getModifiers();
            hold(Modifier.isStatic(bits) && !Modifier.isPublic(bits) && !Modifier.isProtected(bits), "static: " + part);
            int own = 0;
            for (Field f : part.getDeclaredFields()) {
                hold(!Modifier.isStatic(f.getModifiers()), "no static state: " + f);
                own++;
            }
            hold(own <= 20, "some twenty fields: " + part);
        }
    }

    private static void words(String text) {
        String bare = text.replaceAll("(?s)/\\*.*?\\*/", " ").replaceAll("//[^\n]*", " ");
        for (String word : new String[] {"throw", "throws", "try", "catch", "synchronized", "assert", "package", "record",
            "protected", "double", "float", "System.out", "Object", "Random", "Thread", "String", "native", "volatile"}) {
            hold(!Pattern.compile("\\b" + Pattern.quote(word) + "\\b").matcher(bare).find(), "without " + word);
        }
        hold(!bare.contains("->") && !bare.contains("::"), "without lambdas and method references");
        hold(!bare.contains("\""), "without texts");
        for (String line : bare.split("\n")) {
            hold(!line.startsWith("import") || line.equals("import java.util.Arrays;"), "library: " + line);
            hold(!line.contains("System.") || line.contains("System.arraycopy("), "library: " + line);
            hold(!line.contains("Arrays.") || line.contains("Arrays.fill(") || line.startsWith("import"), "library: " + line);
            hold(!line.contains("Math.") || line.contains("Math.min("), "library: " + line);
        }
        hold(text.chars().allMatch(c -> c < 127), "plain signs");
    }
}
