/** Promises 30 and 31: undoing and doing again. */
public final class UndoTest {
    private UndoTest() {
    }

    public static void main(String[] args) {
        backAndForth();
        twenty();
        newEdit();
        noEdits();
        otherKinds();
        weights();
        dirtiness();
        acrossBranches();
        Check.end("UndoTest");
    }

    private static MotionRig rig() {
        MotionRig rig = new MotionRig();
        rig.addChannel('k', 0, 0, 0, 0);
        rig.addChannel('k', 0, 0, 0, 0);
        return rig;
    }

    private static void backAndForth() {
        MotionRig rig = rig();
        Check.is("nothing yet", false, rig.undo());
        Check.is("nothing yet", false, rig.redo());
        rig.setKey(0, 0, 1, 11, 's');
        rig.setKey(0, 0, 1, 12, 's');
        rig.setKey(1, 0, 1, 13, 's');
        rig.removeKey(0, 0, 1);
        Check.is("nothing undone yet", false, rig.redo());
        Check.is("the latest one first", true, rig.undo());
        Check.is("the key is there", 12, rig.keyValue(0, 0, 0));
        Check.is("and the next one", true, rig.undo());
        Check.is("the key is gone", 0, rig.keys(1, 0));
        Check.is("and the next one", true, rig.undo());
        Check.is("the value of before", 11, rig.keyValue(0, 0, 0));
        Check.is("done again", true, rig.redo());
        Check.is("the value", 12, rig.keyValue(0, 0, 0));
        Check.is("done again", true, rig.redo());
        Check.is("the other key", 13, rig.keyValue(1, 0, 0));
        Check.is("done again", true, rig.redo());
        Check.is("gone again", 0, rig.keys(0, 0));
        Check.is("no more", false, rig.redo());
        for (int i = 0; i < 4; i++) {
            Check.is("all four", true, rig.undo());
        }
        Check.is("no more", false, rig.undo());
        Check.is("nothing is left", 0, rig.keys(0, 0) + rig.keys(1, 0));
    }

    private static void twenty() {
        MotionRig rig = rig();
        for (int i = 1; i <= 25; i++) {
            rig.setKey(0, 0, 0, i, 's');
        }
        for (int i = 1; i <= 20; i++) {
            Check.is("undoing " + i, true, rig.undo());
            Check.is("its value", 25.0 - i, rig.value(0));
        }
        Check.is("not the 21st", false, rig.undo());
        Check.is("its value", 5, rig.keyValue(0, 0, 0));
        for (int i = 1; i <= 20; i++) {
            Check.is("doing again " + i, true, rig.redo());
            Check.is("its value", 5.0 + i, rig.value(0));
        }
        Check.is("not the 21st", false, rig.redo());
        rig.undo();
        rig.undo();
        for (int i = 0; i < 3; i++) {
            rig.setKey(0, 0, 0, 100 + i, 's');
        }
        int n = 0;
        while (n < 40 && rig.undo()) {
            n++;
        }
        Check.is("again the last 20", 20, n);
        Check.is("its value", 6, rig.keyValue(0, 0, 0));
    }

    private static void newEdit() {
        MotionRig rig = rig();
        rig.setKey(0, 0, 0, 1, 's');
        rig.setKey(0, 0, 0, 2, 's');
        rig.undo();
        rig.setKey(0, 0, 0, 1, 's');
        Check.is("what changes nothing is no new edit", true, rig.redo());
        rig.undo();
        rig.setKey(1, 0, 0, 3, 's');
        Check.is("a new edit ends it", false, rig.redo());
        Check.is("the new one", true, rig.undo());
        Check.is("the value of before", 1, rig.keyValue(0, 0, 0));
        Check.is("is done again", true, rig.redo());
        Check.is("the new key", 3, rig.keyValue(1, 0, 0));
    }

    private static void noEdits() {
        MotionRig rig = rig();
        int t = rig.addChannel('t', 0, 0, 0, 0);
        int a = rig.addChannel('a', t, 0, 0, 0);
        rig.addLayer('+');
        rig.mute(1, true);
        rig.leaveOut(1, 0, true);
        rig.extend(0, 0, 'c', 'c');
        rig.setTime(5);
        rig.value(a);
        rig.rejoin(a, 0, 0);
        rig.name(0, 'a');
        rig.override('a', 3);
        rig.dropOverride('a');
        rig.addBone(-1, 5, 0);
        rig.addMarker();
        rig.follow(0, 0, 3);
        rig.branch();
        rig.wish(0, 0, 0, 0, 'x');
        rig.merge();
        rig.weigh(1, 100);
        rig.thin(0, 0, 5);
        rig.tell(false, false);
        Check.outcome(() -> rig.setKey(0, 0, 101, 0, 's'));
        Check.outcome(() -> rig.removeKey(0, 0, 0));
        Check.is("none of these is an edit", false, rig.undo());
        rig.setKey(0, 0, 0, 8, 's');
        rig.undo();
        rig.mute(1, false);
        rig.setTime(9);
        Check.is("nor ends it what can be done again", true, rig.redo());
        Check.is("muted no more", false, rig.mute(1, false));
        Check.is("left out yet", true, rig.leaveOut(1, 0, true));
        Check.is("the time stays", 9, rig.setTime(9));
    }

    private static void otherKinds() {
        MotionRig rig = rig();
        rig.setKey(0, 0, 0, 8, 's');
        rig.setKey(0, 0, 2, 16, 's');
        rig.setKey(0, 0, 0, 8, 'l');
        Check.is("another kind", 12.0, rig.valueAt(0, 4));
        Check.is("is an edit", true, rig.undo());
        Check.is("the kind of before", 8.0, rig.valueAt(0, 4));
        rig.bake(0, 0, 0, 2);
        Check.is("baking is one", true, rig.undo());
        Check.is("its keys are gone", 2, rig.keys(0, 0));
        rig.redo();
        Check.is("three keys", 3, rig.keys(0, 0));
        rig.undo();
        rig.branch();
        rig.wish(0, 0, 0, 5, 'e');
        rig.wish(1, 0, 0, 5, 'e');
        rig.merge();
        Check.is("merging is one", true, rig.undo());
        Check.is("with all its keys", 0, rig.keys(1, 0));
        Check.is("with all its keys", 8, rig.keyValue(0, 0, 0));
        rig.redo();
        Check.is("taken again", 5, rig.keyValue(1, 0, 0));
    }

    private static void weights() {
        MotionRig rig = rig();
        rig.addLayer('+');
        rig.weigh(1, 50);
        rig.setKey(0, 1, 0, 10, 's');
        rig.addLayer('o');
        rig.weigh(2, 7);
        Check.is("three edits", true, rig.undo());
        Check.is("the weight of before", 100, rig.weigh(2, 100));
        Check.is("three edits", true, rig.undo());
        Check.is("three edits", true, rig.undo());
        Check.is("the weight of before", 100, rig.weigh(1, 100));
        Check.is("all weights", true, rig.redo());
        Check.is("all weights", 50, rig.weigh(1, 50));
        Check.is("all weights", true, rig.redo() && rig.redo());
        Check.is("all weights", 7, rig.weigh(2, 7));
        Check.is("the layer stays", 3, rig.addLayer('+'));
    }

    private static void dirtiness() {
        MotionRig rig = rig();
        int late = rig.addChannel('d', 0, 0, 4, 0);
        int t = rig.addChannel('t', 0, 0, 0, 0);
        rig.addLayer('+');
        rig.setKey(0, 0, 0, 1, 's');
        rig.setKey(1, 0, 0, 2, 's');
        rig.weigh(1, 40);
        askAll(rig);
        rig.undo();
        Check.is("a weight: all with curves", false, rig.isClean(0) || rig.isClean(1) || rig.isClean(late));
        Check.is("and nothing else", true, rig.isClean(t));
        askAll(rig);
        rig.undo();
        Check.is("a key of another channel", true, rig.isClean(0) && rig.isClean(late) && rig.isClean(t));
        Check.is("its own", false, rig.isClean(1));
        askAll(rig);
        rig.redo();
        Check.is("done again: its own", false, rig.isClean(1));
        Check.is("done again: not others", true, rig.isClean(0) && rig.isClean(late));
        rig.redo();
        Check.is("done again: all with curves", false, rig.isClean(0) || rig.isClean(late));
        int runs = rig.runs();
        rig.undo();
        rig.redo();
        Check.is("undoing runs nothing", runs, rig.runs());
        askAll(rig);
        int clean = rig.undo() && rig.redo() && rig.redo() ? 1 : 0;
        Check.is("no more to do again", 0, clean);
    }

    private static void askAll(MotionRig rig) {
        for (int c = 0; c < 4; c++) {
            rig.value(c);
        }
    }

    private static void acrossBranches() {
        MotionRig rig = rig();
        rig.setKey(0, 0, 0, 1, 's');
        Check.is("one key", 1, rig.branch());
        rig.wish(0, 0, 0, 9, 's');
        rig.undo();
        Check.fails("the branch stays", IllegalStateException.class, () -> rig.branch());
        Check.is("what is there now is another one", 0, rig.merge());
        Check.is("a conflict", 1, rig.conflicts());
        rig.redo();
        Check.is("conflicts stay", 100, rig.conflictAt(0));
        Check.is("and the key", 1, rig.keyValue(0, 0, 0));
    }
}
