import java.lang.reflect.Constructor;
import java.lang.reflect.Field;
import java.lang.reflect.Method;
import java.lang.reflect.Modifier;
import java.nio.file.Files;
import java.nio.file.Path;
import java.util.ArrayList;
import java.util.List;
import java.util.Set;
import java.util.TreeSet;
import java.util.regex.Matcher;
import java.util.regex.Pattern;

/** The public face, and the rules of LANGUAGE.md that can be looked at from outside. */
public final class FaceTest {
    private static int wrong = 0;

    private static final String[] METHODS = {
        "feed 1", "end 1", "text 0", "fault 0", "rule 1", "shape 2", "step 3", "par 2", "word 3", "letter 3",
        "drawn 3", "reach 2", "line 2", "sign 2", "best 1", "tried 2", "set 2", "drop 3", "fit 0", "cut 2",
        "join 1", "move 4", "keep 1", "back 1"};

    private static void say(boolean fine, String what) {
        if (!fine) {
            wrong++;
            System.out.println(what);
        }
    }

    private static void lookAtMethods() {
        Set<String> want = new TreeSet<>(List.of(METHODS));
        Set<String> names = new TreeSet<>();
        for (String m : METHODS) names.add(m.substring(0, m.indexOf(' ')));
        Set<String> got = new TreeSet<>();
        for (Method m : DropCapitals.class.getDeclaredMethods()) {
            if (m.isSynthetic()) continue;
            if (Modifier.isPrivate(m.getModifiers())) {
                say(!names.contains(m.getName()), "a private method bears a public name: " + m);
                continue;
            }
            say(Modifier.isPublic(m.getModifiers()), "neither public nor private: " + m);
            say(m.getReturnType() == int.class, "does not answer an int: " + m);
            for (Class<?> t : m.getParameterTypes()) say(t == int.class, "takes more than ints: " + m);
            got.add(m.getName() + " " + m.getParameterCount());
        }
        say(got.equals(want), "methods are " + got + ", due are " + want);
        for (Class<?> c : DropCapitals.class.getDeclaredClasses()) {
            say(Modifier.isStatic(c.getModifiers()), "not static: " + c);
            for (Method m : c.getDeclaredMethods()) {
                say(!names.contains(m.getName()), "a method inside bears a public name: " + m);
                say(m.getParameterCount() <= 7, "too many parameters: " + m);
            }
        }
        say(DropCapitals.class.getDeclaredClasses().length <= 12, "too many classes");
    }

    private static void lookAtMembers() throws Exception {
        int mods = DropCapitals.class.getModifiers();
        say(Modifier.isPublic(mods) && Modifier.isFinal(mods), "the class is not public and final");
        Constructor<?>[] made = DropCapitals.class.getDeclaredConstructors();
        say(made.length == 1 && made[0].getParameterCount() == 0 && Modifier.isPublic(made[0].getModifiers()),
            "not one public constructor without parameters");
        List<String> open = new ArrayList<>();
        for (Field f : DropCapitals.class.getDeclaredFields()) {
            if (f.isSynthetic() || Modifier.isPrivate(f.getModifiers())) continue;
            open.add(f.getName() + " " + f.getInt(null) + " " + Modifier.toString(f.getModifiers()));
        }
        say(open.equals(List.of("BAD -1 public static final", "STATE -2 public static final",
            "FULL -3 public static final", "NONE -4 public static final")), "the constants are " + open);
    }

    private static void lookAtWords() throws Exception {
        String source = Files.readString(Path.of("src/main/java/DropCapitals.java"));
        String code = source.replaceAll("(?s)/\\*.*?\\*/", " ").replaceAll("//[^\n]*", " ").replaceAll("\"[^\"\n]*\"", "\"\"");
        Matcher m = Pattern.compile("\\b(throw|throws|try|catch|synchronized|assert|import|package|Exact|->|::|protected"
            + "|System\\.(?!arraycopy)\\w+|Object|equals|hashCode|toString)\\b").matcher(code);
        while (m.find()) say(false, "ruled out: " + m.group());
        say(!code.contains("->") && !code.contains("::"), "a lambda or a method reference");
        for (int i = 0; i < source.length(); i++) {
            if (source.charAt(i) > 126) say(false, "a sign beyond 126 at " + i);
        }
    }

    public static void main(String[] args) throws Exception {
        lookAtMethods();
        lookAtMembers();
        lookAtWords();
        System.out.println(wrong == 0 ? "the face is as due" : wrong + " things are not as due");
        if (wrong != 0) System.exit(1);
    }
}
