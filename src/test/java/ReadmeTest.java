import java.io.File;
import java.io.IOException;
import java.lang.reflect.Method;
import java.nio.file.Files;
import java.nio.file.Path;
import java.util.Map;
import java.util.TreeMap;
import java.util.TreeSet;
import java.util.regex.Matcher;
import java.util.regex.Pattern;

/** What README.md says, held to the class and, where it lies beside the checkout, to the document. */
public final class ReadmeTest {
    private static final Pattern EXAMPLES = Pattern.compile("```java\n(.*?)```", Pattern.DOTALL);
    private static final Pattern CALL = Pattern.compile("x\\.(\\w+)\\(([^)]*)\\); +// ([^:]+)(: .+)?");
    private static final Pattern CALL_ROW = Pattern.compile("\\| `(\\w+ \\w+\\([^)]*\\))` (\\|.*)");
    private static final Pattern RULE_ROW = Pattern.compile("\\| (\\d) \\| \\w+ \\| (\\d+) \\.\\. (\\d+) \\| (\\d+) \\|");
    private static final Pattern CONSTANT_ROW = Pattern.compile("\\| `(\\w+)` \\| (-\\d+) \\| .*\\|");
    private static final Pattern TEST_ROW = Pattern.compile("\\| `(\\w+Test)` \\| .*\\|");
    private static final Pattern ANSWER = Pattern.compile("\\b(UNKNOWN|OUTSIDE|STATE|FULL|NO|NONE|LOST)\\b");

    private final String text;

    private ReadmeTest(String text) {
        this.text = text;
    }

    public static void main(String[] args) throws Exception {
        ReadmeTest readme = new ReadmeTest(Files.readString(Path.of("README.md")));
        readme.examples();
        readme.allCalls();
        readme.rules();
        readme.constants();
        readme.tests();
        Due.end();
    }

    private void examples() throws Exception {
        Due.sentence("README, examples");
        Map<String, Method> face = face();
        TreeSet<String> shown = new TreeSet<>();
        Matcher block = EXAMPLES.matcher(text);
        while (block.find()) {
            InkPress x = null;
            for (String line : block.group(1).split("\n")) {
                if (line.equals("InkPress x = new InkPress();")) {
                    x = new InkPress();
                    continue;
                }
                Matcher call = CALL.matcher(line);
                boolean isCall = call.matches() && face.containsKey(call.group(1)) && x != null;
                Due.holds(line + " is a call with its answer", isCall);
                if (isCall) {
                    long got = ((Number) face.get(call.group(1)).invoke(x, numbers(call.group(2)))).longValue();
                    Due.is(line, got, valueOf(call.group(3)));
                    shown.add(call.group(1));
                }
            }
        }
        Due.holds("each call is shown, of " + face.keySet() + " " + shown, shown.equals(face.keySet()));
    }

    private static Map<String, Method> face() {
        Map<String, Method> all = new TreeMap<>();
        for (Method m : InkPress.class.getMethods()) {
            if (m.getDeclaringClass() == InkPress.class) {
                all.put(m.getName(), m);
            }
        }
        return all;
    }

    private static Object[] numbers(String list) {
        if (list.isEmpty()) {
            return new Object[0];
        }
        String[] parts = list.split(", ");
        Object[] all = new Object[parts.length];
        for (int i = 0; i < parts.length; i++) {
            boolean isNumber = parts[i].matches("-?\\d+");
            all[i] = isNumber ? (Object) Integer.valueOf(parts[i]) : (Object) Boolean.valueOf(parts[i]);
        }
        return all;
    }

    /** A number, a constant, or LOST and a constant. */
    private static long valueOf(String answer) throws Exception {
        long sum = 0;
        for (String part : answer.trim().split(" \\+ ")) {
            sum += part.matches("-?\\d+") ? Long.parseLong(part) : InkPress.class.getField(part).getInt(null);
        }
        return sum;
    }

    private void allCalls() throws IOException {
        Due.sentence("README, all calls");
        Document document = Document.find();
        Map<String, String> promises = document == null ? null : document.promises();
        if (promises != null) {
            Due.holds("promises are found", promises.remove("InkPress()") != null);
            Due.is("promises of calls", promises.size(), 22);
        }
        TreeSet<String> names = new TreeSet<>();
        Matcher row = CALL_ROW.matcher(text);
        while (row.find()) {
            names.add(row.group(1).replaceAll("\\(.*", "").replaceAll(".* ", ""));
            if (promises != null) {
                String promise = promises.remove(row.group(1));
                Due.holds(row.group(1) + " is a call of the document", promise != null);
                Due.holds(row.group(1) + " has the refusals of the document",
                    promise != null && answersIn(promise).equals(answersIn(row.group(2))));
            }
        }
        Due.holds("each call has its row, of " + names, names.equals(face().keySet()));
        Due.holds("each promise has its row, but for " + promises, promises == null || promises.isEmpty());
    }

    private static TreeSet<String> answersIn(String words) {
        TreeSet<String> all = new TreeSet<>();
        Matcher m = ANSWER.matcher(words);
        while (m.find()) {
            all.add(m.group());
        }
        return all;
    }

    private void rules() {
        Due.sentence("README, RULES");
        Matcher row = RULE_ROW.matcher(text);
        int rows = 0;
        while (row.find()) {
            int which = Integer.parseInt(row.group(1));
            int least = Integer.parseInt(row.group(2));
            int most = Integer.parseInt(row.group(3));
            int first = Integer.parseInt(row.group(4));
            InkPress x = new InkPress();
            Due.is("row", which, rows++);
            Due.is(which + " below", x.rule(which, least - 1), InkPress.LOST + InkPress.OUTSIDE);
            Due.is(which + " above", x.rule(which, most + 1), InkPress.LOST + InkPress.OUTSIDE);
            Due.is(which + " at first", x.rule(which, least), first);
            Due.is(which + " least", x.rule(which, most), least);
            Due.is(which + " most", x.rule(which, least), most);
        }
        Due.is("rows", rows, 9);
    }

    private void constants() throws Exception {
        Due.sentence("README, constants");
        Matcher row = CONSTANT_ROW.matcher(text);
        int rows = 0;
        while (row.find()) {
            rows++;
            Due.is(row.group(1), Long.parseLong(row.group(2)), valueOf(row.group(1)));
        }
        Due.is("rows", rows, 5);
    }

    private void tests() {
        Due.sentence("README, tests");
        TreeSet<String> named = new TreeSet<>();
        Matcher row = TEST_ROW.matcher(text);
        while (row.find()) {
            named.add(row.group(1));
        }
        TreeSet<String> there = new TreeSet<>();
        String[] files = new File("src/test/java").list();
        for (String file : files == null ? new String[0] : files) {
            if (file.endsWith("Test.java")) {
                there.add(file.replace(".java", ""));
            }
        }
        Due.holds("named " + named + ", there " + there, named.equals(there));
    }
}
