import java.util.NoSuchElementException;

/** Promises 36 to 40: branches, wishes, merging and conflicts. */
public final class ForkTest {
    private ForkTest() {
    }

    public static void main(String[] args) {
        branching();
        wishing();
        wishingWrong();
        wishingMany();
        merging();
        mergingRemovals();
        mergingKinds();
        mergingFull();
        order();
        conflictNumbers();
        dirtiness();
        Check.end("ForkTest");
    }

    private static MotionRig rig() {
        MotionRig rig = new MotionRig();
        rig.addChannel('k', 0, 0, 0, 0);
        rig.addChannel('k', 0, 0, 0, 0);
        rig.addChannel('t', 0, 0, 0, 0);
        rig.addLayer('+');
        return rig;
    }

    private static void branching() {
        MotionRig rig = rig();
        Check.is("no keys", 0, rig.branch());
        Check.fails("there is one", IllegalStateException.class, () -> rig.branch());
        Check.is("no wishes", 0, rig.merge());
        Check.fails("it is over", IllegalStateException.class, () -> rig.merge());
        rig.setKey(0, 0, 1, 1, 's');
        rig.setKey(0, 1, 1, 1, 's');
        rig.setKey(1, 1, 2, 1, 's');
        Check.is("keys of all curves", 3, rig.branch());
        rig.merge();
        rig.removeKey(0, 1, 1);
        Check.is("another one", 2, rig.branch());
        Check.is("nothing dirty, nothing run", 0, rig.runs());
    }

    private static void wishing() {
        MotionRig rig = rig();
        Check.fails("no branch", IllegalStateException.class, () -> rig.wish(0, 0, 0, 0, 's'));
        rig.branch();
        Check.is("one", 1, rig.wish(0, 0, 0, 5, 's'));
        Check.is("the same key", 1, rig.wish(0, 0, 0, 6, 'l'));
        Check.is("another one", 2, rig.wish(1, 1, 100, 1000, 'e'));
        Check.is("one ahead", 3, rig.wish(0, 1, -100, -1000, 's'));
        Check.is("none there", 4, rig.wish(0, 0, 100, 5, 'x'));
        Check.is("whatever the value", 4, rig.wish(0, 0, 100, Integer.MAX_VALUE, 'x'));
        Check.is("whatever the value", 5, rig.wish(1, 0, 0, Integer.MIN_VALUE, 'x'));
        Check.is("nothing is there yet", 0, rig.keys(0, 0) + rig.keys(1, 1));
        Check.is("all five", 5, rig.merge());
        Check.is("the last wish of a key counts", 6, rig.keyValue(0, 0, 0));
        Check.is("a wish", 1000, rig.keyValue(1, 1, 0));
        Check.is("a wish", -100, rig.keyAt(0, 1, 0));
        Check.is("no key there", 1, rig.keys(0, 0));
        rig.branch();
        Check.is("wishes of before are gone", 1, rig.wish(0, 0, 3, 5, 's'));
    }

    private static void wishingWrong() {
        MotionRig rig = rig();
        for (int bad : new int[] {3, -1, 16, Integer.MAX_VALUE, Integer.MIN_VALUE}) {
            Check.fails("channel " + bad, IndexOutOfBoundsException.class, () -> rig.wish(bad, 0, 101, 0, 's'));
            Check.fails("layer " + bad, IndexOutOfBoundsException.class, () -> rig.wish(0, bad, 0, 1001, '?'));
        }
        Check.fails("layer 2", IndexOutOfBoundsException.class, () -> rig.wish(0, 2, 0, 0, 's'));
        for (int bad : new int[] {101, -101, Integer.MAX_VALUE, Integer.MIN_VALUE}) {
            Check.fails("frame " + bad, IllegalArgumentException.class, () -> rig.wish(0, 0, bad, 0, 's'));
            Check.fails("frame of none " + bad, IllegalArgumentException.class, () -> rig.wish(0, 0, bad, 0, 'x'));
        }
        for (char bad : new char[] {'h', 'X', 'k', 0, 0x178}) {
            Check.fails("kind " + (int) bad, IllegalArgumentException.class, () -> rig.wish(0, 0, 0, 0, bad));
        }
        for (int bad : new int[] {1001, -1001, Integer.MAX_VALUE, Integer.MIN_VALUE}) {
            Check.fails("value " + bad, IllegalArgumentException.class, () -> rig.wish(0, 0, 0, bad, 'e'));
            Check.fails("value ahead of channel", IllegalArgumentException.class, () -> rig.wish(2, 0, 0, bad, 'e'));
        }
        Check.fails("'t' has no keys", UnsupportedOperationException.class, () -> rig.wish(2, 0, 0, 0, 's'));
        Check.fails("not even to take away", UnsupportedOperationException.class, () -> rig.wish(2, 0, 0, 0, 'x'));
        rig.branch();
        Check.fails("not in a branch, either", UnsupportedOperationException.class, () -> rig.wish(2, 0, 0, 0, 's'));
        Check.fails("kind in a branch", IllegalArgumentException.class, () -> rig.wish(0, 0, 0, 0, 'o'));
        Check.is("what fails is no wish", 1, rig.wish(0, 0, 0, 0, 's'));
    }

    private static void wishingMany() {
        MotionRig rig = rig();
        rig.branch();
        for (int i = 1; i <= 40; i++) {
            Check.is("wish " + i, i, rig.wish(i % 2, i % 4 / 2, 50 - i, i, 's'));
        }
        Check.fails("the 41st key", IllegalStateException.class, () -> rig.wish(0, 0, 0, 0, 's'));
        Check.fails("the 41st key ahead", IllegalStateException.class, () -> rig.wish(0, 0, -100, 0, 'x'));
        Check.fails("the 41st key behind", IllegalStateException.class, () -> rig.wish(1, 1, 100, 0, 'x'));
        Check.is("one of the 40", 40, rig.wish(0, 0, 10, 77, 'l'));
        Check.is("and another one", 40, rig.wish(1, 1, 11, 78, 'x'));
        Check.fails("value ahead of the 41st", IllegalArgumentException.class, () -> rig.wish(0, 0, 0, 1001, 's'));
        Check.is("all", 40, rig.merge());
        Check.is("one of them", 77, rig.keyValue(0, 0, 0));
        Check.is("no key of another one", 9, rig.keys(1, 1));
    }

    private static void merging() {
        MotionRig rig = rig();
        rig.setKey(0, 0, 0, 10, 's');
        rig.setKey(0, 0, 1, 11, 's');
        rig.setKey(0, 0, 2, 12, 's');
        rig.setKey(0, 0, 3, 13, 's');
        rig.branch();
        rig.wish(0, 0, 0, 20, 's');
        rig.wish(0, 0, 1, 21, 's');
        rig.wish(0, 0, 2, 22, 's');
        rig.wish(0, 0, 3, 13, 's');
        rig.setKey(0, 0, 1, 31, 's');
        rig.setKey(0, 0, 2, 22, 's');
        Check.is("taken, also what is there already", 3, rig.merge());
        Check.is("nobody else changed it", 20, rig.keyValue(0, 0, 0));
        Check.is("another one: it is left", 31, rig.keyValue(0, 0, 1));
        Check.is("the same one", 22, rig.keyValue(0, 0, 2));
        Check.is("one conflict", 1, rig.conflicts());
        Check.is("its key", 101, rig.conflictAt(0));
        rig.branch();
        Check.is("conflicts stay while a branch is there", 1, rig.conflicts());
        rig.wish(0, 0, 1, 44, 's');
        rig.setKey(0, 0, 1, 45, 's');
        rig.setKey(0, 0, 1, 31, 's');
        Check.is("changed and changed back", 1, rig.merge());
        Check.is("no conflicts any more", 0, rig.conflicts());
        Check.fails("no conflict any more", NoSuchElementException.class, () -> rig.conflictAt(0));
    }

    private static void mergingRemovals() {
        MotionRig rig = rig();
        rig.setKey(0, 0, 0, 10, 's');
        rig.setKey(0, 0, 1, 11, 's');
        rig.setKey(0, 0, 2, 12, 's');
        rig.branch();
        rig.wish(0, 0, 0, 0, 'x');
        rig.wish(0, 0, 1, 0, 'x');
        rig.wish(0, 0, 2, 0, 'x');
        rig.wish(0, 0, 3, 0, 'x');
        rig.wish(0, 0, 4, 0, 'x');
        rig.wish(0, 0, 5, 50, 's');
        rig.setKey(0, 0, 1, 21, 's');
        rig.removeKey(0, 0, 2);
        rig.setKey(0, 0, 4, 24, 's');
        rig.setKey(0, 0, 5, 25, 's');
        Check.is("taken", 3, rig.merge());
        Check.is("those that are left", 3, rig.keys(0, 0));
        Check.is("a changed one is not taken away", 21, rig.keyValue(0, 0, 0));
        Check.is("nor a new one", 24, rig.keyValue(0, 0, 1));
        Check.is("nor is a new one changed", 25, rig.keyValue(0, 0, 2));
        Check.is("three conflicts", 3, rig.conflicts());
        Check.is("a changed one", 101, rig.conflictAt(0));
        Check.is("a new one", 104, rig.conflictAt(1));
        Check.is("a new one", 105, rig.conflictAt(2));
        rig.branch();
        rig.wish(0, 0, 1, 99, 's');
        rig.removeKey(0, 0, 1);
        Check.is("one that was taken away", 0, rig.merge());
        Check.is("is a conflict", 101, rig.conflictAt(0));
    }

    private static void mergingKinds() {
        MotionRig rig = rig();
        rig.setKey(0, 0, 0, 10, 's');
        rig.setKey(0, 0, 2, 20, 's');
        rig.branch();
        rig.wish(0, 0, 0, 10, 'l');
        rig.wish(0, 0, 2, 20, 'l');
        rig.setKey(0, 0, 2, 20, 'e');
        Check.is("another kind is another key", 1, rig.merge());
        Check.is("a line", 15.0, rig.valueAt(0, 4));
        Check.is("a conflict", 102, rig.conflictAt(0));
    }

    private static void mergingFull() {
        MotionRig rig = rig();
        for (int i = 0; i < 19; i++) {
            rig.setKey(0, 0, 10 + i, i, 's');
        }
        rig.branch();
        rig.wish(0, 0, 50, 1, 's');
        rig.wish(0, 0, 51, 1, 's');
        rig.wish(0, 0, 12, 99, 's');
        rig.wish(0, 0, 52, 1, 'x');
        rig.wish(0, 1, 52, 1, 's');
        Check.is("taken but for the 21st key", 4, rig.merge());
        Check.is("twenty", 20, rig.keys(0, 0));
        Check.is("one conflict", 1, rig.conflicts());
        Check.is("the 21st key", 151, rig.conflictAt(0));
        Check.is("one in place of another", 99, rig.keyValue(0, 0, 2));
        rig.branch();
        rig.wish(0, 0, 9, 5, 's');
        rig.wish(0, 0, 50, 5, 'x');
        rig.wish(0, 0, 60, 5, 's');
        Check.is("by rising frames", 2, rig.merge());
        Check.is("room comes too late for the first one", 109, rig.conflictAt(0));
        Check.is("but not for the last one", 60, rig.keyAt(0, 0, 19));
        rig.branch();
        rig.wish(0, 0, 60, 5, 's');
        rig.removeKey(0, 0, 60);
        rig.setKey(0, 0, 70, 5, 's');
        Check.is("gone and full", 0, rig.merge());
        Check.is("is one conflict", 1, rig.conflicts());
    }

    private static void order() {
        MotionRig rig = rig();
        rig.addLayer('o');
        rig.branch();
        int[][] all = {{1, 2, -100}, {0, 1, 100}, {1, 0, 0}, {0, 2, 3}, {0, 2, -3}, {0, 0, 100}, {1, 2, 100}};
        for (int[] key : all) {
            rig.wish(key[0], key[1], key[2], 1, 's');
            rig.setKey(key[0], key[1], key[2], 2, 's');
        }
        Check.is("none is taken", 0, rig.merge());
        int[] due = {200, 1200, 2097, 2103, 10100, 12000, 12200};
        for (int i = 0; i < due.length; i++) {
            Check.is("by rising channels, layers and frames", due[i], rig.conflictAt(i));
        }
        Check.is("all", due.length, rig.conflicts());
    }

    private static void conflictNumbers() {
        MotionRig rig = rig();
        Check.is("none at first", 0, rig.conflicts());
        for (int bad : new int[] {0, -1, 40, Integer.MAX_VALUE, Integer.MIN_VALUE}) {
            Check.fails("conflict " + bad, NoSuchElementException.class, () -> rig.conflictAt(bad));
        }
        for (int i = 3; i < 16; i++) {
            rig.addChannel('k', 0, 0, 0, 0);
        }
        rig.branch();
        rig.wish(15, 1, -100, 1, 's');
        rig.setKey(15, 1, -100, 2, 's');
        rig.merge();
        Check.is("the last channel", 151000, rig.conflictAt(0));
        for (int bad : new int[] {1, -1, 39, 40, Integer.MAX_VALUE, Integer.MIN_VALUE}) {
            Check.fails("conflict " + bad, NoSuchElementException.class, () -> rig.conflictAt(bad));
        }
        Check.fails("no branch", IllegalStateException.class, () -> rig.merge());
        Check.is("a merge that fails keeps them", 1, rig.conflicts());
    }

    private static void dirtiness() {
        MotionRig rig = rig();
        int late = rig.addChannel('d', 0, 0, 4, 0);
        rig.setKey(0, 0, 0, 10, 's');
        for (int c = 0; c < 4; c++) {
            rig.value(c);
        }
        rig.branch();
        rig.wish(0, 0, 0, 10, 's');
        rig.merge();
        Check.is("what is there already makes nothing dirty", true, rig.isClean(0) && rig.isClean(late));
        Check.is("and is no edit", true, rig.undo());
        Check.is("keys", 0, rig.keys(0, 0));
        rig.redo();
        rig.value(0);
        rig.value(late);
        rig.branch();
        rig.wish(0, 0, 0, 11, 's');
        Check.is("wishing makes nothing dirty", true, rig.isClean(0) && rig.isClean(late));
        rig.merge();
        Check.is("what is taken does", false, rig.isClean(0) || rig.isClean(late));
        Check.is("but not other channels", true, rig.isClean(1));
        Check.is("its value", 11.0, rig.value(0));
    }
}
