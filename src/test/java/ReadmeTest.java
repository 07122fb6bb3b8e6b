import java.lang.reflect.Method;
import java.net.URL;
import java.net.URLClassLoader;
import java.nio.file.Files;
import java.nio.file.Path;
import java.util.ArrayList;
import java.util.List;
import java.util.regex.Matcher;
import java.util.regex.Pattern;
import javax.tools.ToolProvider;

/** What README.md says: each call of its examples answers what stands behind it, and it names every call. */
public final class ReadmeTest {
    private static final Pattern BLOCK = Pattern.compile("```java\\n(.*?)```", Pattern.DOTALL);
    private static final Pattern LINE = Pattern.compile(
            "(?:(AttributeLink|int) ([a-z]+) = )?([^;/]+);(?: *// (?:(answers|throws) (\\w+))?.*)?");
    private static final Pattern SILENT = Pattern.compile("new AttributeLink.*|link\\.(tell|begin|write|raw)\\(.*");

    public static void main(String[] args) throws Exception {
        // The program lies in src/main/java, README.md above src.
        String readme = Files.readString(Path.of(args[0]).resolve("../../../../README.md").normalize());
        examples(readme);
        everyCall(readme);
        Checks.dueTrue("it tells the command", readme.contains("```sh\n.ci/run\n```"));
        Checks.end();
    }

    private static void examples(String readme) throws Exception {
        int examples = 0;
        Matcher blocks = BLOCK.matcher(readme);
        while (blocks.find()) {
            examples++;
            List<String> due = new ArrayList<>();
            StringBuilder body = new StringBuilder();
            for (String line : blocks.group(1).split("\\n")) {
                addCall(line, due, body);
            }
            Checks.dueLines("example " + examples, due, answersOf("Example" + examples, body.toString()));
        }
        Checks.dueTrue("there are examples", examples > 0);
    }

    private static void addCall(String line, List<String> due, StringBuilder body) {
        Matcher parts = LINE.matcher(line);
        boolean isCall = parts.matches();
        Checks.dueTrue("a call: " + line, isCall);
        if (!isCall) {
            return;
        }
        String call = parts.group(3);
        String quoted = "\"" + call + ": ";
        boolean isThrown = "throws".equals(parts.group(4));
        if (isThrown) {
            due.add(call + ": " + parts.group(5));
            body.append("try { ").append(call).append("; got.add(").append(quoted).append("nothing\"); }")
                    .append(" catch (RuntimeException e) { got.add(").append(quoted)
                    .append("\" + e.getClass().getSimpleName()); }\n");
            return;
        }
        String name = parts.group(2);
        boolean isAnswered = "answers".equals(parts.group(4));
        Checks.dueTrue("an answer behind " + line, isAnswered != SILENT.matcher(call).matches());
        if (name != null) {
            body.append(parts.group(1)).append(" ").append(name).append(" = ").append(call).append(";\n");
        }
        if (isAnswered) {
            due.add(call + ": " + Long.decode(parts.group(5)));
            body.append("got.add(").append(quoted).append("\" + ").append(name == null ? call : name).append(");\n");
        } else if (name == null) {
            body.append(call).append(";\n");
        }
    }

    private static List<String> answersOf(String name, String body) throws Exception {
        Path room = Files.createTempDirectory("readme");
        try {
            Path file = room.resolve(name + ".java");
            Folders.write(file, "import java.util.*;\npublic final class " + name
                    + " {\n public static void make(List<String> got) {\n" + body + " }\n}\n");
            int code = ToolProvider.getSystemJavaCompiler().run(null, null, null,
                    "-cp", System.getProperty("java.class.path"), "-d", room.toString(), file.toString());
            Checks.due(name + " compiles", 0, code);
            List<String> got = new ArrayList<>();
            if (code == 0) {
                try (URLClassLoader loader = new URLClassLoader(new URL[] {room.toUri().toURL()})) {
                    Method make = loader.loadClass(name).getMethod("make", List.class);
                    make.invoke(null, got);
                }
            }
            return got;
        } finally {
            Folders.remove(room);
        }
    }

    private static void everyCall(String readme) {
        Checks.dueTrue("the constructor", readme.contains("\n| `new AttributeLink(hop, used, above)` |"));
        for (Method method : Face.class.getDeclaredMethods()) {
            String name = method.getName();
            Checks.dueTrue(name + " in the table", readme.contains("\n| `" + name + "("));
            Checks.dueTrue(name + " in an example", readme.contains("\nlink." + name + "(")
                    || readme.contains("= link." + name + "("));
        }
    }
}
