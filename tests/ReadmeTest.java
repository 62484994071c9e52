import java.io.ByteArrayOutputStream;
import java.io.File;
import java.io.PrintStream;
import java.lang.reflect.Method;
import java.lang.reflect.Modifier;
import java.nio.charset.StandardCharsets;
import java.nio.file.Files;
import java.nio.file.Path;
import java.util.regex.Matcher;
import java.util.regex.Pattern;

/** README.md says how to use the class and how to run its tests: what it says must be so. */
public final class ReadmeTest {
    public static void main(String[] args) throws Exception {
        String readme = Files.readString(Path.of("README.md"));
        example(readme);
        texts(readme);
        calls(readme);
        tests(readme);
        Check.close("ReadmeTest");
    }

    private static void example(String readme) throws Exception {
        Check.edge("README: the example is tests/Village.java");
        Check.due("its lines", readme.contains("```java\n" + Files.readString(Path.of("tests/Village.java")) + "```"), true);
        Check.edge("README: the example prints what stands there");
        Check.due("its answers", readme.contains("```text\n" + printed() + "```"), true);
    }

    private static String printed() {
        PrintStream console = System.out;
        ByteArrayOutputStream bytes = new ByteArrayOutputStream();
        System.setOut(new PrintStream(bytes, true, StandardCharsets.US_ASCII));
        Village.main(new String[0]);
        System.setOut(console);
        return bytes.toString(StandardCharsets.US_ASCII).replace("\r\n", "\n");
    }

    private static void texts(String readme) {
        Check.edge("README: what a text tells is told so");
        StringBuilder text = new StringBuilder();
        Matcher told = Pattern.compile("(?m)\\| `([a-z][^`]*;)` \\|$").matcher(readme);
        while (told.find()) {
            text.append(told.group(1));
        }
        FeatherCourt x = Check.court(text.toString());
        int[] counts = {1, 1, 0, 0, 20, 0, 3, 4};
        for (int what = 0; what < counts.length; what++) {
            Check.due("count(" + what + ")", x.count(what), counts[what]);
        }
        Check.due("tariff(0, 0)", x.tariff(0, 0), 5);
    }

    private static void calls(String readme) {
        Check.edge("README: each call of the face has its line");
        for (Method m : FeatherCourt.class.getDeclaredMethods()) {
            if (Modifier.isPublic(m.getModifiers())) {
                Check.due(m.getName(), readme.contains("`" + m.getName() + "("), true);
            }
        }
    }

    private static void tests(String readme) {
        Check.edge("README: each test of the project has its line");
        for (File file : new File("tests").listFiles()) {
            String name = file.getName().replace(".java", "");
            if (name.endsWith("Test")) {
                Check.due(name, readme.contains("| `" + name + "` |"), true);
            }
        }
    }
}
