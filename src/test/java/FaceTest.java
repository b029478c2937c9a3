import java.io.IOException;
import java.lang.reflect.Constructor;
import java.lang.reflect.Executable;
import java.lang.reflect.Field;
import java.lang.reflect.Method;
import java.lang.reflect.Modifier;
import java.nio.file.Files;
import java.nio.file.Path;
import java.util.ArrayList;
import java.util.HashSet;
import java.util.List;
import java.util.Set;
import java.util.TreeSet;
import java.util.regex.Matcher;
import java.util.regex.Pattern;

/** The public face: that of the document, with its exceptions in their order, and nothing else. */
public final class FaceTest {
    private static final Pattern LINE = Pattern.compile("public (?:(\\w+) )?(\\w+)\\(([^)]*)\\)(?: throws ([^;]+))?;");

    private FaceTest() {
    }

    public static void main(String[] args) throws IOException {
        Set<String> told = new TreeSet<>();
        for (String line : Files.readAllLines(Path.of("../shared/DOC.md"))) {
            Matcher m = LINE.matcher(line.trim());
            if (m.matches()) {
                told.add(signature(m));
            }
        }
        Check.is("signatures in the document", 44, told.size());
        Check.is("the face", told, face());
        Check.is("public and final", Modifier.PUBLIC | Modifier.FINAL, MotionRig.class.getModifiers());
        Check.is("no package", "", MotionRig.class.getPackageName());
        hidden();
        Check.end("FaceTest");
    }

    private static String signature(Matcher m) {
        List<String> types = new ArrayList<>();
        for (String p : m.group(3).isEmpty() ? new String[0] : m.group(3).split(", ")) {
            types.add(p.split(" ")[0]);
        }
        String thrown = m.group(4) == null ? "[]" : List.of(m.group(4).split(", ")).toString();
        return (m.group(1) == null ? "" : m.group(1) + " ") + m.group(2) + types + " throws " + thrown;
    }

    private static Set<String> face() {
        Set<String> all = new TreeSet<>();
        for (Method m : MotionRig.class.getDeclaredMethods()) {
            if (Modifier.isPublic(m.getModifiers())) {
                all.add(m.getReturnType().getSimpleName() + " " + m.getName() + described(m));
                Check.is(m.getName() + " is no static one", false, Modifier.isStatic(m.getModifiers()));
            }
        }
        for (Constructor<?> c : MotionRig.class.getDeclaredConstructors()) {
            all.add("MotionRig" + described(c));
        }
        return all;
    }

    private static String described(Executable e) {
        return names(e.getParameterTypes()) + " throws " + names(e.getExceptionTypes());
    }

    private static List<String> names(Class<?>[] types) {
        List<String> names = new ArrayList<>();
        for (Class<?> c : types) {
            names.add(c.getSimpleName());
        }
        return names;
    }

    private static void hidden() {
        Set<String> names = new HashSet<>();
        for (Method m : MotionRig.class.getDeclaredMethods()) {
            if (Modifier.isPublic(m.getModifiers())) {
                names.add(m.getName());
            }
        }
        for (Method m : MotionRig.class.getDeclaredMethods()) {
            if (!Modifier.isPublic(m.getModifiers()) && !m.isSynthetic()) {
                Check.is(m.getName() + " is private", true, Modifier.isPrivate(m.getModifiers()));
                Check.is(m.getName() + " bears no name of the face", false, names.contains(m.getName()));
            }
        }
        for (Field f : MotionRig.class.getDeclaredFields()) {
            Check.is(f.getName() + " is private", true, Modifier.isPrivate(f.getModifiers()));
        }
        for (Class<?> c : MotionRig.class.getDeclaredClasses()) {
            Check.is(c.getSimpleName() + " is static", true, Modifier.isStatic(c.getModifiers()));
            Check.is(c.getSimpleName() + " is not public", false, Modifier.isPublic(c.getModifiers()));
            for (Method m : c.getDeclaredMethods()) {
                Check.is(m.getName() + " inside bears no name of the face", false, names.contains(m.getName()));
            }
            for (Field f : c.getDeclaredFields()) {
                Check.is(f.getName() + " inside: a static one is final", true,
                    !Modifier.isStatic(f.getModifiers()) || Modifier.isFinal(f.getModifiers()));
            }
        }
    }
}
