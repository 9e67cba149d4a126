import java.io.IOException;
import java.lang.reflect.Constructor;
import java.lang.reflect.Field;
import java.lang.reflect.Member;
import java.lang.reflect.Method;
import java.lang.reflect.Modifier;
import java.nio.file.Files;
import java.nio.file.Path;
import java.util.ArrayList;
import java.util.Arrays;
import java.util.List;
import java.util.TreeSet;
import java.util.regex.Pattern;

/** The public face as the document has it, and those rules of LANGUAGE.md that can be read off the file. */
public final class FaceTest {
    private static final String[] METHODS = {
        "int press(int,int)", "int rule(int,int)", "int set(int,int,int)", "int zone(int,int)", "int ink(int,int)",
        "int print(int)", "int steer(boolean)", "int good(int)", "int density(int,int)", "int past(int,int)",
        "int preset(int)", "int presets()", "int told(int)", "int mark(int,int,int,int)", "int clear()",
        "long fit(int,int)", "int off(int,int)", "int job(int,int)", "int forget()", "int wash(int,int,int)",
        "int order()", "int orderAt(int)"};
    private static final String[] RULED_OUT = {
        "\\bthrow\\b", "\\btry\\b", "\\bcatch\\b", "\\bsynchronized\\b", "\\bassert\\b", "->", "::",
        "\\bimport\\b(?!\\s+java\\.util\\.(ArrayList|List|Arrays|Iterator);)",
        "\\bpackage\\b", "\\bprotected\\b", "Exact\\b", "\\bThread\\b", "\\bSystem\\.(?!arraycopy)"};

    public static void main(String[] args) throws IOException {
        constants();
        members();
        names();
        nested();
        words(args.length > 0 ? args[0] : "src/main/java/InkPress.java");
        Due.end();
    }

    private static void constants() {
        Due.is("UNKNOWN", InkPress.UNKNOWN, -1);
        Due.is("OUTSIDE", InkPress.OUTSIDE, -2);
        Due.is("STATE", InkPress.STATE, -3);
        Due.is("FULL", InkPress.FULL, -4);
        Due.is("NO", InkPress.NO, -5);
        Due.is("NONE", InkPress.NONE, -6);
        Due.is("LOST", InkPress.LOST, -1000000);
    }

    private static void members() {
        Due.holds("public and final", Modifier.isPublic(InkPress.class.getModifiers())
            && Modifier.isFinal(InkPress.class.getModifiers()));
        TreeSet<String> face = new TreeSet<>();
        for (Method m : InkPress.class.getDeclaredMethods()) {
            if (!Modifier.isPrivate(m.getModifiers())) {
                Due.holds(m + " is public and of the object",
                    Modifier.isPublic(m.getModifiers()) && !Modifier.isStatic(m.getModifiers()));
                face.add(signature(m));
            }
        }
        TreeSet<String> due = new TreeSet<>(Arrays.asList(METHODS));
        Due.holds("methods " + face, face.equals(due));
        TreeSet<String> constants = new TreeSet<>();
        for (Field f : InkPress.class.getDeclaredFields()) {
            if (!Modifier.isPrivate(f.getModifiers())) {
                Due.holds(f + " is a public constant", Modifier.isPublic(f.getModifiers())
                    && Modifier.isStatic(f.getModifiers()) && f.getType() == int.class);
                constants.add(f.getName());
            }
            Due.holds(f + " is final if it is static", isFinalIfStatic(f));
        }
        Due.holds("constants " + constants, constants.equals(
            new TreeSet<>(Arrays.asList("UNKNOWN", "OUTSIDE", "STATE", "FULL", "NO", "NONE", "LOST"))));
        Constructor<?>[] all = InkPress.class.getDeclaredConstructors();
        Due.is("constructors", all.length, 1);
        Due.holds("constructor", Modifier.isPublic(all[0].getModifiers()) && all[0].getParameterCount() == 0);
    }

    private static String signature(Method m) {
        List<String> types = new ArrayList<>();
        for (Class<?> type : m.getParameterTypes()) {
            types.add(type.getName());
        }
        return m.getReturnType().getName() + " " + m.getName() + "(" + String.join(",", types) + ")";
    }

    private static boolean isFinalIfStatic(Member f) {
        return !Modifier.isStatic(f.getModifiers()) || Modifier.isFinal(f.getModifiers());
    }

    private static void names() {
        TreeSet<String> face = new TreeSet<>();
        for (String method : METHODS) {
            face.add(method.substring(method.indexOf(' ') + 1, method.indexOf('(')));
        }
        for (Method m : InkPress.class.getDeclaredMethods()) {
            Due.holds(m + " bears no public name", Modifier.isPublic(m.getModifiers()) || !face.contains(m.getName()));
        }
        for (Class<?> inside : InkPress.class.getDeclaredClasses()) {
            for (Method m : inside.getDeclaredMethods()) {
                Due.holds(m + " bears no public name",
                    !Modifier.isPrivate(m.getModifiers()) || !face.contains(m.getName()));
            }
        }
    }

    private static void nested() {
        Class<?>[] inside = InkPress.class.getDeclaredClasses();
        Due.holds("at most twelve classes", inside.length <= 12);
        for (Class<?> c : inside) {
            int is = c.getModifiers();
            Due.holds(c + " is static and not public",
                Modifier.isStatic(is) && !Modifier.isPublic(is) && !Modifier.isProtected(is));
            int own = 0;
            for (Field f : c.getDeclaredFields()) {
                Due.holds(f + " is final if it is static", isFinalIfStatic(f));
                own += Modifier.isStatic(f.getModifiers()) ? 0 : 1;
            }
            Due.holds(c + " has at most twenty fields", own <= 20);
        }
    }

    private static void words(String path) throws IOException {
        String text = Files.readString(Path.of(path));
        String code = text.replaceAll("(?s)/\\*.*?\\*/", "").replaceAll("//[^\n]*", "");
        // The arrow of a switch is no lambda.
        code = code.replaceAll("\\b(case\\b[^;{}]*?|default\\s*)->", "");
        for (String word : RULED_OUT) {
            Due.holds(word + " is not in the file", !Pattern.compile(word).matcher(code).find());
        }
    }
}
