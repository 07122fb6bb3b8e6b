import java.nio.file.Files;
import java.nio.file.Path;
import java.nio.file.StandardCopyOption;
import java.util.concurrent.TimeUnit;

/** The script that README.md names runs every test, goes on behind one that fails, and fails then. */
public final class ScriptTest {
    private static final String PROGRAM = "public final class AttributeLink { }";

    public static void main(String[] args) throws Exception {
        // The program lies in src/main/java, the script in .ci above src.
        Path script = Path.of(args[0]).resolve("../../../../.ci/run").normalize();
        allPass(script);
        oneFails(script);
        cannotBeRun(script);
        Checks.end();
    }

    private static void allPass(Path script) throws Exception {
        String said = saidBy(script, PROGRAM, 0, 0, 0);
        Checks.dueTrue("all pass: " + said, said.contains("ok      FirstTest\nok      SecondTest\n")
                && said.contains("ok      shared/Runs\n") && said.contains("3 passed, 0 failed")
                && said.endsWith("exit 0"));
    }

    private static void oneFails(Path script) throws Exception {
        String first = saidBy(script, PROGRAM, 1, 0, 0);
        Checks.dueTrue("the first fails: " + first, first.contains("FAILED  FirstTest\nok      SecondTest\n")
                && first.contains("ok      shared/Runs\n") && first.endsWith("exit 1"));
        String second = saidBy(script, PROGRAM, 0, 3, 0);
        Checks.dueTrue("the second fails: " + second, second.contains("ok      FirstTest\nFAILED  SecondTest\n")
                && second.contains("ok      shared/Runs\n") && second.endsWith("exit 1"));
        String shared = saidBy(script, PROGRAM, 0, 0, 1);
        Checks.dueTrue("a shared one fails: " + shared, shared.contains("ok      FirstTest\nok      SecondTest\n")
                && shared.contains("FAILED  shared/Runs\n") && shared.endsWith("exit 1"));
    }

    private static void cannotBeRun(Path script) throws Exception {
        String broken = saidBy(script, "public final class AttributeLink {", 0, 0, 0);
        Checks.dueTrue("the program does not compile: " + broken, broken.endsWith("exit 1"));
        String without = saidBy(script, PROGRAM, 0, 0, -1);
        Checks.dueTrue("without shared tests: " + without, without.endsWith("exit 1"));
    }

    /** What the script says in a small project whose three tests end so; without the shared one for -1. */
    private static String saidBy(Path script, String program, int first, int second, int shared) throws Exception {
        Path room = Files.createTempDirectory("script");
        try {
            Path copy = room.resolve("project/.ci/run");
            Files.createDirectories(copy.getParent());
            Files.copy(script, copy, StandardCopyOption.COPY_ATTRIBUTES);
            Folders.write(room.resolve("project/src/main/java/AttributeLink.java"), program);
            Folders.write(room.resolve("project/src/test/java/FirstTest.java"), test("FirstTest", first));
            Folders.write(room.resolve("project/src/test/java/SecondTest.java"), test("SecondTest", second));
            if (shared >= 0) {
                Folders.write(room.resolve("shared/tests/Runs.java"), test("Runs", shared));
            }
            return saidBy(copy, room);
        } finally {
            Folders.remove(room);
        }
    }

    private static String saidBy(Path script, Path room) throws Exception {
        Path said = room.resolve("said");
        Process process = new ProcessBuilder("sh", script.toString()).directory(room.toFile())
                .redirectErrorStream(true).redirectOutput(said.toFile()).start();
        boolean ended = process.waitFor(5, TimeUnit.MINUTES);
        if (!ended) {
            process.destroyForcibly().waitFor();
        }
        return Files.readString(said) + "exit " + process.exitValue();
    }

    private static String test(String name, int code) {
        return "public final class " + name + " { public static void main(String[] args) { System.exit(" + code + "); } }";
    }
}
