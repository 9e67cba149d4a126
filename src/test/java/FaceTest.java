import java.io.IOException;
import java.lang.reflect.Constructor;
import java.lang.reflect.Executable;
import java.lang.reflect.Field;
import java.lang.reflect.Member;
import java.lang.reflect.Method;
import java.lang.reflect.Modifier;
import java.nio.file.Files;
import java.nio.file.Path;
import java.util.ArrayList;
import java.util.Arrays;
import java.util.List;
import java.util.TreeSet;
import java.util.regex.Matcher;
import java.util.regex.Pattern;

/** The public face as the document has it, and those rules of LANGUAGE.md that can be read off the file. */
public final class FaceTest {
    private static final String FACE = """
        public final class InkPress {
            public static final int UNKNOWN = -1, OUTSIDE = -2, STATE = -3, FULL = -4, NO = -5, NONE = -6;
            public static final int LOST = -1000000;
            public InkPress();
            public int press(int zones, int rollers);
            public int rule(int which, int v);
            public int set(int zone, int what, int v);
            public int zone(int zone, int what);
            public int ink(int roller, int zone);
            public int print(int n);
            public int steer(boolean on);
            public int good(int sheet);
            public int density(int sheet, int zone);
            public int past(int cover, int key);
            public int preset(int cover);
            public int presets();
            public int told(int what);
            public int mark(int x, int y, int dx, int dy);
            public int clear();
            public long fit(int which, int part);
            public int off(int i, int way);
            public int job(int colour, int paper);
            public int forget();
            public int wash(int from, int to, int cost);
            public int order();
            public int orderAt(int i);
        }
        """;
    private static final Pattern METHOD = Pattern.compile("public (int|long) (\\w+)\\(([^)]*)\\);");
    private static final String[] RULED_OUT = {
        "\\bthrow\\b", "\\btry\\b", "\\bcatch\\b", "\\bsynchronized\\b", "\\bassert\\b", "->", "::",
        "\\bimport\\b(?!\\s+java\\.util\\.(ArrayList|List|Arrays|Iterator);)",
        "\\bpackage\\b", "\\bprotected\\b", "Exact\\b", "\\bThread\\b", "\\bSystem\\.(?!arraycopy)"};
    private static final int MOST_PARAMETERS = 7, MOST_LINES = 60, MOST_CLASSES = 12, MOST_FIELDS = 20;

    public static void main(String[] args) throws IOException {
        String file = Files.readString(Path.of(args.length > 0 ? args[0] : "src/main/java/InkPress.java"));
        faceIsTheDocuments();
        declarations(file);
        constants();
        kind();
        methods();
        fields();
        constructor();
        names();
        nested();
        words(file);
        lengths(file);
        Due.end();
    }

    private static void faceIsTheDocuments() throws IOException {
        Document document = Document.find();
        if (document != null) {
            Due.holds("the face here is that of the document", document.face().equals(FACE));
        }
    }

    /** Parameters' names too, which the compiled class does not tell. */
    private static void declarations(String file) {
        for (String line : FACE.split("\n")) {
            String due = line.contains("(") ? line.replace(";", " {") : line;
            Due.holds("in the file is " + due.trim(), ("\n" + file).contains("\n" + due + "\n"));
        }
    }

    private static void constants() {
        Due.is("UNKNOWN", InkPress.UNKNOWN, -1);
        Due.is("OUTSIDE", InkPress.OUTSIDE, -2);
        Due.is("STATE", InkPress.STATE, -3);
        Due.is("FULL", InkPress.FULL, -4);
        Due.is("NO", InkPress.NO, -5);
        Due.is("NONE", InkPress.NONE, -6);
        Due.is("LOST", InkPress.LOST, -1000000);
    }

    private static void kind() {
        int is = InkPress.class.getModifiers();
        Due.holds("public and final", Modifier.isPublic(is) && Modifier.isFinal(is));
        Due.holds("of no class above it", InkPress.class.getSuperclass() == Object.class);
        Due.is("interfaces", InkPress.class.getInterfaces().length, 0);
    }

    private static void methods() {
        TreeSet<String> face = new TreeSet<>();
        for (Method m : InkPress.class.getDeclaredMethods()) {
            atMostSevenParameters(m);
            if (!Modifier.isPrivate(m.getModifiers())) {
                Due.holds(m + " is public and of the object",
                    Modifier.isPublic(m.getModifiers()) && !Modifier.isStatic(m.getModifiers()));
                face.add(signature(m));
            }
        }
        TreeSet<String> due = new TreeSet<>();
        Matcher m = METHOD.matcher(FACE);
        while (m.find()) {
            String types = m.group(3).replaceAll("(\\w+) \\w+", "$1").replace(" ", "");
            due.add(m.group(1) + " " + m.group(2) + "(" + types + ")");
        }
        Due.is("methods in the document", due.size(), 22);
        Due.holds("methods " + face, face.equals(due));
    }

    private static String signature(Method m) {
        List<String> types = new ArrayList<>();
        for (Class<?> type : m.getParameterTypes()) {
            types.add(type.getName());
        }
        return m.getReturnType().getName() + " " + m.getName() + "(" + String.join(",", types) + ")";
    }

    private static void fields() {
        TreeSet<String> constants = new TreeSet<>();
        for (Field f : InkPress.class.getDeclaredFields()) {
            if (!Modifier.isPrivate(f.getModifiers())) {
                Due.holds(f + " is a public constant", Modifier.isPublic(f.getModifiers())
                    && Modifier.isStatic(f.getModifiers()) && f.getType() == int.class);
                constants.add(f.getName());
            }
            Due.holds(f + " is final if it is static", isFinalIfStatic(f));
        }
        Due.holds("constants " + constants, constants.equals(
            new TreeSet<>(Arrays.asList("UNKNOWN", "OUTSIDE", "STATE", "FULL", "NO", "NONE", "LOST"))));
    }

    private static void constructor() {
        Constructor<?>[] all = InkPress.class.getDeclaredConstructors();
        Due.is("constructors", all.length, 1);
        Due.holds("constructor", Modifier.isPublic(all[0].getModifiers()) && all[0].getParameterCount() == 0);
    }

    private static boolean isFinalIfStatic(Member f) {
        return !Modifier.isStatic(f.getModifiers()) || Modifier.isFinal(f.getModifiers());
    }

    private static void atMostSevenParameters(Executable m) {
        Due.holds(m + " takes at most seven parameters", m.getParameterCount() <= MOST_PARAMETERS);
    }

    private static void names() {
        TreeSet<String> face = new TreeSet<>();
        Matcher method = METHOD.matcher(FACE);
        while (method.find()) {
            face.add(method.group(2));
        }
        for (Method m : InkPress.class.getDeclaredMethods()) {
            Due.holds(m + " bears no public name", Modifier.isPublic(m.getModifiers()) || !face.contains(m.getName()));
        }
        for (Class<?> inside : InkPress.class.getDeclaredClasses()) {
            for (Method m : inside.getDeclaredMethods()) {
                Due.holds(m + " bears no public name",
                    !Modifier.isPrivate(m.getModifiers()) || !face.contains(m.getName()));
            }
        }
    }

    private static void nested() {
        Class<?>[] inside = InkPress.class.getDeclaredClasses();
        Due.holds("at most twelve classes", inside.length <= MOST_CLASSES);
        for (Class<?> c : inside) {
            int is = c.getModifiers();
            Due.holds(c + " is static and not public",
                Modifier.isStatic(is) && !Modifier.isPublic(is) && !Modifier.isProtected(is));
            int own = 0;
            for (Field f : c.getDeclaredFields()) {
                Due.holds(f + " is final if it is static", isFinalIfStatic(f));
                own += Modifier.isStatic(f.getModifiers()) ? 0 : 1;
            }
            Due.holds(c + " has at most twenty fields", own <= MOST_FIELDS);
            for (Method m : c.getDeclaredMethods()) {
                atMostSevenParameters(m);
            }
        }
    }

    private static void words(String file) {
        String code = file.replaceAll("(?s)/\\*.*?\\*/", "").replaceAll("//[^\n]*", "");
        // The arrow of a switch is no lambda.
        code = code.replaceAll("\\b(case\\b[^;{}]*?|default\\s*)->", "");
        for (String word : RULED_OUT) {
            Due.holds(word + " is not in the file", !Pattern.compile(word).matcher(code).find());
        }
    }

    private static void lengths(String file) {
        Pattern method = Pattern.compile("\n( {4}| {8})(?! )[^\n{};]*\\([^\n;]*\\) \\{\n(.*?)\n\\1}\n", Pattern.DOTALL);
        Matcher m = method.matcher(file);
        int seen = 0;
        while (m.find()) {
            seen++;
            int lines = m.group(2).split("\n").length + 2;
            Due.holds("a method of " + lines + " lines:" + m.group().lines().limit(2).reduce("", String::concat),
                lines <= MOST_LINES);
        }
        // If there were none the pattern would fit no more.
        Due.holds("methods are seen, " + seen, seen > 22);
    }
}
