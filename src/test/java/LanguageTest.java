import java.io.IOException;
import java.nio.charset.StandardCharsets;
import java.nio.file.Files;
import java.nio.file.Path;
import java.util.List;
import java.util.Set;
import java.util.regex.Matcher;
import java.util.regex.Pattern;

/** The rules of LANGUAGE.md that can be read off the text of the class. */
public final class LanguageTest {
    private static final Path FILE = Path.of("src/main/java/MotionRig.java");
    private static final Set<String> IMPORTS = Set.of("java.util.Arrays", "java.util.NoSuchElementException");
    private static final Set<String> LIBRARY = Set.of("Math.max", "Math.min", "Math.floorDiv", "System.arraycopy",
        "Arrays.fill", "Integer.bitCount");
    private static final Set<String> THROWN = Set.of("IllegalStateException", "IllegalArgumentException",
        "IndexOutOfBoundsException", "ArithmeticException", "UnsupportedOperationException",
        "NoSuchElementException");

    private LanguageTest() {
    }

    public static void main(String[] args) throws IOException {
        String text = Files.readString(FILE, StandardCharsets.US_ASCII);
        List<String> lines = text.lines().toList();
        String code = text.replaceAll("/\\*(?s:.*?)\\*/", "").replaceAll("//.*", "");
        imports(code);
        words(code);
        calls(code);
        throwing(code);
        making(lines);
        sizes(lines);
        Check.end("LanguageTest");
    }

    private static void none(String what, String pattern, String code) {
        Matcher m = Pattern.compile(pattern).matcher(code);
        Check.is(what, "", m.find() ? m.group() : "");
    }

    private static void imports(String code) {
        none("no package", "(?m)^\\s*package\\b", code);
        Matcher m = Pattern.compile("import ([\\w.* ]+);").matcher(code);
        while (m.find()) {
            Check.is("import of " + m.group(1), true, IMPORTS.contains(m.group(1)));
        }
    }

    private static void words(String code) {
        none("no lambda", "->", code);
        none("no method reference", "::", code);
        none("no word that is ruled out",
            "\\b(synchronized|assert|finally|try|catch|instanceof|record|protected|native|volatile|strictfp|var)\\b",
            code);
        none("no static initialiser", "static\\s*\\{", code);
        none("no static state", "static (?!final|int|long|char|boolean|double|void)[\\w\\[\\]]+ \\w+\\s*[=;]", code);
        none("no static number but whole ones", "static final (double|float)", code);
        none("no text", "\"", code);
        none("no two dimensions", "\\[\\]\\[\\]", code);
    }

    private static void calls(String code) {
        Matcher m = Pattern.compile("\\b(Math|System|Arrays|Integer|Long|Double|Float|Character|String)\\.(\\w+)")
            .matcher(code);
        while (m.find()) {
            Check.is("call of " + m.group(), true, LIBRARY.contains(m.group()));
        }
        none("no method of Object", "\\.(equals|hashCode|toString|getClass|clone|length\\(\\))\\b", code);
    }

    private static void throwing(String code) {
        Matcher m = Pattern.compile("\\bthrow\\b\\s*(new (\\w+)\\(\\))?").matcher(code);
        while (m.find()) {
            Check.is("throwing " + m.group(), true, m.group(2) != null && THROWN.contains(m.group(2)));
        }
    }

    /** Objects are made with the rig alone, so that a call costs the room nothing. */
    private static void making(List<String> lines) {
        for (String line : lines) {
            if (line.matches(".*\\bnew \\w.*") && !line.contains("throw new")) {
                Check.is("made with the rig: " + line.trim(), true,
                    line.matches("        private final [\\w\\[\\]]+ \\w+ = new \\w+(\\[[\\w. *]+\\]|\\(\\));")
                        || line.matches("        \\w+ = new \\w+[(\\[].*;"));
            }
        }
    }

    private static void sizes(List<String> lines) {
        int classes = 0;
        int fields = 0;
        int begun = 0;
        String close = "";
        for (int i = 0; i < lines.size(); i++) {
            String line = lines.get(i);
            Check.is("no long line " + i, true, line.length() <= 120);
            if (line.matches("(    private static|public) final class .*")) {
                classes++;
                fields = 0;
            } else if (line.matches(" +private (?!static)[\\w\\[\\] ]+( = .*)?;")) {
                fields++;
                Check.is("fields of a class up to line " + i, true, fields <= 20);
            } else if (close.isEmpty() && line.matches("(    |        )(?! ).*\\(.*") && !line.endsWith(";")) {
                close = line.startsWith("        ") ? "        }" : "    }";
                begun = i;
                Check.is("parameters at line " + i, true, line.split(",").length <= 7);
            }
            if (line.equals(close)) {
                Check.is("a short method at line " + begun, true, i - begun < 60);
                close = "";
            }
        }
        Check.is("not more than twelve classes", true, classes <= 12);
    }
}
