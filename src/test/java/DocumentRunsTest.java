import java.io.IOException;
import java.nio.file.Files;
import java.nio.file.Path;
import java.util.ArrayList;
import java.util.List;
import java.util.regex.Matcher;
import java.util.regex.Pattern;

/**
 * The three runs of ../shared/tests/MotionRigRuns.java, call for call, each held to the answer that the document
 * asks for.
 */
public final class DocumentRunsTest {
    private static final Path FILE = Path.of("../shared/tests/MotionRigRuns.java");
    private static final Pattern CALL = Pattern.compile("\\bx\\.(\\w+\\((?:[^()]|\\(char\\))*\\))");

    private static final List<String> called = new ArrayList<>();

    private DocumentRunsTest() {
    }

    public static void main(String[] args) throws IOException {
        run1(new MotionRig());
        run2(new MotionRig());
        run3(new MotionRig());
        sameCalls();
        Check.end("DocumentRunsTest");
    }

    /** The runs are the same ones only as long as the file has these calls in this order. */
    private static void sameCalls() throws IOException {
        List<String> theirs = new ArrayList<>();
        for (String line : Files.readAllLines(FILE)) {
            if (line.contains("x = new MotionRig()")) {
                theirs.add("new MotionRig()");
            }
            Matcher m = CALL.matcher(line);
            if (m.find()) {
                theirs.add(m.group(1));
            }
        }
        Check.is("the calls of the file", theirs, called);
    }

    private static void due(String call, Object want, Check.Call made) {
        called.add(call);
        Check.is(call, want, Check.outcome(made));
    }

    private static void dueThrow(String call, Class<? extends RuntimeException> want, Check.Call made) {
        called.add(call);
        Check.fails(call, want, made);
    }

    private static void run1(MotionRig x) {
        called.add("new MotionRig()");
        due("addChannel((char) 107, 0, 0, 0, 0)", 0, () -> x.addChannel('k', 0, 0, 0, 0));
        due("addChannel((char) 116, 0, 0, 0, 0)", 1, () -> x.addChannel('t', 0, 0, 0, 0));
        due("addChannel((char) 43, 0, 1, 0, 0)", 2, () -> x.addChannel('+', 0, 1, 0, 0));
        due("setKey(0, 0, 0, 0, (char) 108)", 1, () -> x.setKey(0, 0, 0, 0, 'l'));
        due("setKey(0, 0, 4, 8, (char) 101)", 2, () -> x.setKey(0, 0, 4, 8, 'e'));
        due("setKey(0, 0, 8, 0, (char) 115)", 3, () -> x.setKey(0, 0, 8, 0, 's'));
        due("extend(0, 0, (char) 104, (char) 111)", 'h', () -> x.extend(0, 0, 'h', 'o'));
        due("setTime(6)", 0, () -> x.setTime(6));
        due("value(2)", 4.5, () -> x.value(2));
        due("runs()", 3, () -> x.runs());
        due("value(2)", 4.5, () -> x.value(2));
        due("runs()", 3, () -> x.runs());
        due("isClean(0)", true, () -> x.isClean(0));
        due("setTime(24)", 6, () -> x.setTime(24));
        due("value(0)", 4.0, () -> x.value(0));
        due("valueAt(0, 40)", 4.0, () -> x.valueAt(0, 40));
        due("setKey(0, 0, 4, 9, (char) 101)", 3, () -> x.setKey(0, 0, 4, 9, 'e'));
        due("isClean(2)", false, () -> x.isClean(2));
        due("value(2)", 10.5, () -> x.value(2));
        due("undo()", true, () -> x.undo());
        due("value(2)", 10.0, () -> x.value(2));
        due("redo()", true, () -> x.redo());
        due("value(0)", 4.5, () -> x.value(0));
        due("undo()", true, () -> x.undo());
        due("keys(0, 0)", 3, () -> x.keys(0, 0));
        due("keyAt(0, 0, 1)", 4, () -> x.keyAt(0, 0, 1));
        due("keyValue(0, 0, 1)", 8, () -> x.keyValue(0, 0, 1));
        due("thin(0, 0, 1000)", 1, () -> x.thin(0, 0, 1000));
        due("undo()", true, () -> x.undo());
        due("meanKeys()", 3.0, () -> x.meanKeys());
        due("phase(2, 3)", 1.0f, () -> x.phase(2, 3));
        due("whole(2)", 10L, () -> x.whole(2));
        due("cleanShare()", 1.0f, () -> x.cleanShare());
    }

    private static void run2(MotionRig x) {
        called.add("new MotionRig()");
        due("addChannel((char) 107, 0, 0, 0, 0)", 0, () -> x.addChannel('k', 0, 0, 0, 0));
        due("addChannel((char) 107, 0, 0, 0, 0)", 1, () -> x.addChannel('k', 0, 0, 0, 0));
        due("addBone(-1, 64, 0)", 0, () -> x.addBone(-1, 64, 0));
        due("addBone(0, 64, 1)", 1, () -> x.addBone(0, 64, 1));
        due("tip(1, true)", 128.0, () -> x.tip(1, true));
        due("reach(1, 64, 64)", 2, () -> x.reach(1, 64, 64));
        due("tip(1, true)", 64.0, () -> x.tip(1, true));
        due("tip(1, false)", 64.0, () -> x.tip(1, false));
        due("direction(1)", 2, () -> x.direction(1));
        due("addMarker()", 0, () -> x.addMarker());
        due("follow(0, 1, 2)", 0, () -> x.follow(0, 1, 2));
        due("place(0, true)", 0.0, () -> x.place(0, true));
        due("follow(0, 0, 2)", 0, () -> x.follow(0, 0, 2));
        due("place(0, true)", 0.0, () -> x.place(0, true));
        due("place(0, false)", 0.0, () -> x.place(0, false));
        due("setKey(0, 0, 0, 4, (char) 115)", 1, () -> x.setKey(0, 0, 0, 4, 's'));
        due("place(0, true)", -128.0, () -> x.place(0, true));
        due("addLayer((char) 111)", 1, () -> x.addLayer('o'));
        due("setKey(0, 1, 0, 2, (char) 108)", 1, () -> x.setKey(0, 1, 0, 2, 'l'));
        due("weigh(1, 50)", 100, () -> x.weigh(1, 50));
        due("value(0)", 3.0, () -> x.value(0));
        due("mute(1, true)", false, () -> x.mute(1, true));
        due("value(0)", 4.0, () -> x.value(0));
        due("undo()", true, () -> x.undo());
        due("leaveOut(1, 0, true)", false, () -> x.leaveOut(1, 0, true));
        dueThrow("reach(0, 0, 0)", UnsupportedOperationException.class, () -> x.reach(0, 0, 0));
        due("bake(0, 0, 0, 3)", 4, () -> x.bake(0, 0, 0, 3));
        due("keys(0, 0)", 4, () -> x.keys(0, 0));
        due("undo()", true, () -> x.undo());
        due("keys(0, 0)", 1, () -> x.keys(0, 0));
    }

    private static void run3(MotionRig x) {
        called.add("new MotionRig()");
        due("addChannel((char) 107, 0, 0, 0, 0)", 0, () -> x.addChannel('k', 0, 0, 0, 0));
        due("addChannel((char) 112, 0, 0, 4, 3)", 1, () -> x.addChannel('p', 0, 0, 4, 3));
        due("addChannel((char) 100, 1, 0, 6, 0)", 2, () -> x.addChannel('d', 1, 0, 6, 0));
        due("addChannel((char) 37, 2, 0, 0, 0)", 3, () -> x.addChannel('%', 2, 0, 0, 0));
        due("setKey(0, 0, 0, 0, (char) 115)", 1, () -> x.setKey(0, 0, 0, 0, 's'));
        due("setKey(0, 0, 2, 16, (char) 115)", 2, () -> x.setKey(0, 0, 2, 16, 's'));
        due("setTime(14)", 0, () -> x.setTime(14));
        due("value(1)", 19.5625, () -> x.value(1));
        due("value(2)", 8.0, () -> x.value(2));
        due("value(3)", 8.0, () -> x.value(3));
        due("runs()", 4, () -> x.runs());
        due("isPlayed(1, 0, 40)", true, () -> x.isPlayed(1, 0, 40));
        dueThrow("rejoin(0, 0, 1)", IllegalArgumentException.class, () -> x.rejoin(0, 0, 1));
        dueThrow("rejoin(1, 0, 2)", UnsupportedOperationException.class, () -> x.rejoin(1, 0, 2));
        due("name(0, (char) 97)", false, () -> x.name(0, 'a'));
        due("override((char) 97, 5)", 1, () -> x.override('a', 5));
        due("override((char) 98, 7)", 2, () -> x.override('b', 7));
        due("orphans()", 1, () -> x.orphans());
        due("value(1)", 5.0, () -> x.value(1));
        due("dropOverride((char) 97)", 5, () -> x.dropOverride('a'));
        due("value(1)", 19.5625, () -> x.value(1));
        due("branch()", 2, () -> x.branch());
        due("wish(0, 0, 2, 20, (char) 108)", 1, () -> x.wish(0, 0, 2, 20, 'l'));
        due("wish(0, 0, 5, 1, (char) 115)", 2, () -> x.wish(0, 0, 5, 1, 's'));
        due("setKey(0, 0, 5, 2, (char) 115)", 3, () -> x.setKey(0, 0, 5, 2, 's'));
        due("merge()", 1, () -> x.merge());
        due("conflicts()", 1, () -> x.conflicts());
        due("conflictAt(0)", 105, () -> x.conflictAt(0));
        due("keyValue(0, 0, 1)", 20, () -> x.keyValue(0, 0, 1));
        due("tell(false, true)", 1, () -> x.tell(false, true));
        due("tell(true, false)", 1, () -> x.tell(true, false));
        due("undo()", true, () -> x.undo());
        due("value(1)", 19.5625, () -> x.value(1));
    }
}
