import java.lang.reflect.Method;
import java.nio.file.Files;
import java.nio.file.Path;
import java.util.regex.Matcher;
import java.util.regex.Pattern;

/** The list of sentences and their tests names tests that there are. */
public final class SentencesTest {
    public static void main(String[] args) throws Exception {
        // The program lies in src/main/java, the list in src/test.
        Path list = Path.of(args[0]).resolve("../../../test/SENTENCES.md").normalize();
        Matcher names = Pattern.compile("`([A-Za-z]+Test)\\.([A-Za-z0-9]+)`").matcher(Files.readString(list));
        while (names.find()) {
            Checks.dueTrue(names.group() + " is no test", hasMethod(Class.forName(names.group(1)), names.group(2)));
        }
        Checks.end();
    }

    private static boolean hasMethod(Class<?> test, String name) {
        for (Method method : test.getDeclaredMethods()) {
            if (method.getName().equals(name)) {
                return true;
            }
        }
        return false;
    }
}
