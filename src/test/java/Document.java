import java.io.IOException;
import java.nio.file.Files;
import java.nio.file.Path;
import java.util.LinkedHashMap;
import java.util.Map;
import java.util.regex.Matcher;
import java.util.regex.Pattern;

/** The document as it lies beside the checkout: its public face and the text of each promise. */
final class Document {
    private static final Path PATH = Path.of("../shared/DOC.md");

    private final String text;

    private Document(String text) {
        this.text = text;
    }

    /** Null if it is not there: what is held to it has its own copy of what matters, so that is no failure. */
    static Document find() throws IOException {
        if (!Files.exists(PATH)) {
            System.out.println("there is no " + PATH + ", nothing is held to its text");
            return null;
        }
        return new Document(Files.readString(PATH));
    }

    String face() {
        Matcher m = Pattern.compile("## The public face\\s+```java\n(.*?)```", Pattern.DOTALL).matcher(text);
        return m.find() ? m.group(1) : "";
    }

    /** By what a promise names as its call, such as "int clear()". */
    Map<String, String> promises() {
        Map<String, String> all = new LinkedHashMap<>();
        Matcher m = Pattern.compile("## Promise \\d+: \\w.*\n\n`([^`]+)`: (.*)\n").matcher(text);
        while (m.find()) {
            all.put(m.group(1), m.group(2));
        }
        return all;
    }
}
