import java.io.IOException;
import java.lang.reflect.Constructor;
import java.lang.reflect.Field;
import java.lang.reflect.Method;
import java.lang.reflect.Modifier;
import java.nio.file.Files;
import java.nio.file.Path;
import java.util.ArrayList;
import java.util.List;
import java.util.Set;
import java.util.TreeSet;
import java.util.regex.Pattern;

/** The document's face and nothing beside it, and those rules of LANGUAGE.md that a word gives away. */
public final class FaceTest {
    private static final String[] HEADS = {"row int int int", "set int int long", "copy int int int int int",
        "element int int", "show int int", "holds int", "says int int", "player int int", "playerOf int int", "at int",
        "put int int", "turn int", "ask int int", "score int int int", "team int", "fault", "good int int", "open int",
        "value int", "often int", "blocked int int", "side int int", "worth", "hard", "bold int", "strong int",
        "chance int int int int", "begin int", "change", "judge int int", "behind int int int", "run int int int",
        "whom int int int", "rally int", "rallies int", "anew", "seed int", "act int int int", "trace int", "image",
        "restore", "status int"};
    private static final String[] FORBIDDEN = {"throw", "throws", "try", "catch", "synchronized", "assert", "import",
        "package", "volatile", "transient", "native", "protected", "var", "equals", "hashCode", "toString", "float",
        "double", "Exact\\(", "System\\.(?!arraycopy)", "Thread", "->", "::", "\"\\s*\\+|\\+\\s*\""};
    private static int wrong = 0;

    private static void due(boolean fine, String what) {
        if (!fine) {
            wrong++;
            System.out.println(what);
        }
    }

    private static void face() {
        Class<?> c = ToLiftToStrike.class;
        due(Modifier.isPublic(c.getModifiers()) && Modifier.isFinal(c.getModifiers()), "public and final");
        Set<String> names = new TreeSet<>();
        Set<String> want = new TreeSet<>(List.of(HEADS));
        Set<String> heads = new TreeSet<>();
        List<Method> hidden = new ArrayList<>();
        for (Method m : c.getDeclaredMethods()) {
            if (Modifier.isPublic(m.getModifiers())) {
                heads.add(head(m));
                names.add(m.getName());
                due(m.getReturnType() == (m.getName().equals("element") ? long.class : int.class), "type of " + m);
                due(!Modifier.isStatic(m.getModifiers()), "static " + m);
            } else {
                hidden.add(m);
            }
        }
        due(heads.equals(want), "heads " + heads);
        for (Class<?> inside : c.getDeclaredClasses()) {
            due(Modifier.isStatic(inside.getModifiers()) && !Modifier.isPublic(inside.getModifiers()), "class " + inside);
            hidden.addAll(List.of(inside.getDeclaredMethods()));
            due(inside.getDeclaredFields().length <= 32, "fields of " + inside);
        }
        for (Method m : hidden) {
            due(!names.contains(m.getName()), "bears a public name: " + m);
            due(m.getParameterCount() <= 7, "parameters of " + m);
            due(m.getDeclaringClass() != c || Modifier.isPrivate(m.getModifiers()), "is to be private: " + m);
        }
        constants(c);
    }

    private static String head(Method m) {
        StringBuilder head = new StringBuilder(m.getName());
        for (Class<?> p : m.getParameterTypes()) head.append(' ').append(p.getName());
        return head.toString();
    }

    private static void constants(Class<?> c) {
        for (Field f : c.getDeclaredFields()) {
            boolean shown = f.getName().equals("NONE");
            due(Modifier.isPublic(f.getModifiers()) == shown && Modifier.isPrivate(f.getModifiers()) != shown, "field " + f);
            due(!Modifier.isStatic(f.getModifiers()) || Modifier.isFinal(f.getModifiers()), "static and not final: " + f);
        }
        due(ToLiftToStrike.NONE == -1, "NONE");
        Constructor<?>[] makers = c.getDeclaredConstructors();
        due(makers.length == 1 && Modifier.isPublic(makers[0].getModifiers()) && makers[0].getParameterCount() == 0, "constructor");
        due(c.getDeclaredClasses().length < 12, "classes");
    }

    private static void language() throws IOException {
        String source = Files.readString(Path.of("src/main/java/ToLiftToStrike.java"));
        String bare = source.replaceAll("(?s)/\\*.*?\\*/", "").replaceAll("//[^\n]*", "");
        for (String word : FORBIDDEN) {
            boolean letters = word.matches("[A-Za-z]+");
            due(!Pattern.compile(letters ? "\\b" + word + "\\b" : word).matcher(bare).find(), "the source has " + word);
        }
        for (char sign : source.toCharArray()) due(sign < 128, "a sign beyond 127");
    }

    public static void main(String[] args) throws IOException {
        face();
        language();
        System.out.println(wrong == 0 ? "the face is the document's" : wrong + " faults in the face");
        if (wrong != 0) System.exit(1);
    }
}
