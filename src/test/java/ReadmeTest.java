import java.io.IOException;
import java.lang.reflect.Method;
import java.lang.reflect.Modifier;
import java.nio.charset.StandardCharsets;
import java.nio.file.Files;
import java.nio.file.Path;
import java.util.Set;
import java.util.TreeSet;
import java.util.regex.Matcher;
import java.util.regex.Pattern;
import javax.tools.ToolProvider;

/** README.md: its example compiles as it stands and prints what is told there, and its table has all calls. */
public final class ReadmeTest {
    private static final String SOURCE = "src/main/java/MotionRig.java";
    private static final Path BUILD = Path.of("build/readme");

    private ReadmeTest() {
    }

    public static void main(String[] args) throws IOException, InterruptedException {
        String text = Files.readString(Path.of("README.md"), StandardCharsets.UTF_8);
        example(block(text, "java"), block(text, "text"));
        calls(text);
        Check.end("ReadmeTest");
    }

    /** The one block of this language. */
    private static String block(String text, String language) {
        Matcher m = Pattern.compile("(?ms)^```" + language + "\n(.*?)^```$").matcher(text);
        String found = m.find() ? m.group(1) : "";
        Check.is("a block of " + language, false, found.isEmpty());
        Check.is("another block of " + language, false, m.find());
        return found;
    }

    private static void example(String code, String due) throws IOException, InterruptedException {
        Files.createDirectories(BUILD);
        Path file = BUILD.resolve("Wave.java");
        Files.writeString(file, code);
        int failed = ToolProvider.getSystemJavaCompiler().run(null, null, null, "-Xlint:all", "-Werror", "-d",
            BUILD.toString(), SOURCE, file.toString());
        Check.is("compiling the example", 0, failed);
        Process run = new ProcessBuilder(Path.of(System.getProperty("java.home"), "bin", "java").toString(), "-cp",
            BUILD.toString(), "Wave").redirectErrorStream(true).start();
        String printed = new String(run.getInputStream().readAllBytes(), StandardCharsets.UTF_8);
        Check.is("what the example prints", due, printed);
        Check.is("its exit code", 0, run.waitFor());
    }

    private static void calls(String text) {
        Set<String> face = new TreeSet<>();
        for (Method m : MotionRig.class.getDeclaredMethods()) {
            if (Modifier.isPublic(m.getModifiers())) {
                face.add(m.getName());
            }
        }
        Set<String> told = new TreeSet<>();
        Matcher row = Pattern.compile("(?m)^\\|[^|]*\\|(.*)\\|$").matcher(text);
        while (row.find()) {
            Matcher call = Pattern.compile("`(\\w+)`").matcher(row.group(1));
            while (call.find()) {
                Check.is("first time in the table: " + call.group(1), true, told.add(call.group(1)));
            }
        }
        Check.is("the calls of the table", face, told);
    }
}
