/** Promises 28 and 29: baking and thinning. */
public final class BakingTest {
    private BakingTest() {
    }

    public static void main(String[] args) {
        baking();
        bakingOnALayer();
        bakingFromAhead();
        bakingOverridden();
        bakingRoom();
        bakingEdit();
        bakingWrong();
        thinning();
        thinningByBound();
        thinningFromWhatIsLeft();
        thinningFull();
        thinningEdit();
        thinningWrong();
        Check.end("BakingTest");
    }

    private static void baking() {
        MotionRig rig = new MotionRig();
        int k = rig.addChannel('k', 0, 0, 0, 0);
        rig.setKey(k, 0, 0, 0, 'l');
        rig.setKey(k, 0, 4, 10, 's');
        Check.is("five keys", 5, rig.bake(k, 0, 0, 4));
        int[] due = {0, 2, 5, 8, 10};
        for (int i = 0; i < due.length; i++) {
            Check.is("by rint at " + i, due[i], rig.keyValue(k, 0, i));
            Check.is("frame " + i, i, rig.keyAt(k, 0, i));
        }
        Check.is("lines", 3.5, rig.valueAt(k, 6));
        rig.setKey(k, 0, 6, 20, 's');
        Check.is("the last one is a line, too", 15.0, rig.valueAt(k, 20));
        Check.is("one frame, in place of one", 6, rig.bake(k, 0, 6, 6));
        Check.is("counts no runs", 0, rig.runs());
        Check.is("one frame, a new key", 7, rig.bake(k, 0, 5, 5));
        Check.is("its value", 15, rig.keyValue(k, 0, 5));
    }

    private static void bakingOnALayer() {
        MotionRig rig = new MotionRig();
        int k = ChannelsTest.constant(rig, 7);
        rig.addLayer('+');
        rig.addLayer('o');
        rig.setKey(k, 1, 3, 40, 's');
        rig.weigh(1, 25);
        Check.is("on another layer", 3, rig.bake(k, 2, -1, 1));
        Check.is("the value of the channel", 17, rig.keyValue(k, 2, 0));
        Check.is("and other layers stay", 1, rig.keys(k, 0));
        rig.bake(k, 1, 2, 2);
        Check.is("what it adds to itself", 17, rig.keyValue(k, 1, 0));
    }

    private static void bakingFromAhead() {
        MotionRig rig = new MotionRig();
        int k = rig.addChannel('k', 0, 0, 0, 0);
        rig.addLayer('+');
        rig.setKey(k, 1, 0, 600, 's');
        Check.is("values that are added", 3, rig.bake(k, 0, 0, 2));
        for (int i = 0; i < 3; i++) {
            Check.is("as they are ahead of the baking", 600, rig.keyValue(k, 0, i));
        }
        Check.is("the sum", 1200.0, rig.valueAt(k, 4));
        rig.bake(k, 0, 0, 1);
        Check.is("held to 1000", 1000, rig.keyValue(k, 0, 1));
        rig.setKey(k, 1, 0, -1000, 's');
        rig.setKey(k, 0, 0, -1000, 's');
        rig.bake(k, 0, 0, 0);
        Check.is("held to -1000", -1000, rig.keyValue(k, 0, 0));
        MotionRig one = new MotionRig();
        int c = one.addChannel('k', 0, 0, 0, 0);
        one.setKey(c, 0, 0, 0, 'e');
        one.setKey(c, 0, 10, 100, 'e');
        one.bake(c, 0, 2, 4);
        for (int i = 2; i <= 4; i++) {
            double u = i / 10.0;
            int due = (int) Math.rint(0.0 + 100.0 * (u * u * (3.0 - 2.0 * u)));
            Check.is("an ease that is not cut by the first key", due, one.keyValue(c, 0, i - 1));
        }
    }

    private static void bakingOverridden() {
        MotionRig rig = new MotionRig();
        int k = ChannelsTest.constant(rig, 7);
        rig.name(k, 'q');
        rig.override('q', -9);
        rig.bake(k, 0, 5, 5);
        Check.is("as by valueAt(): the override", -9, rig.keyValue(k, 0, 1));
        MotionRig half = new MotionRig();
        int h = half.addChannel('k', 0, 0, 0, 0);
        half.setKey(h, 0, -4, -1, 'l');
        half.setKey(h, 0, -2, -4, 'l');
        half.bake(h, 0, -3, -3);
        Check.is("-2.5 by rint", -2, half.keyValue(h, 0, 1));
    }

    private static void bakingRoom() {
        MotionRig rig = new MotionRig();
        int k = rig.addChannel('k', 0, 0, 0, 0);
        Check.is("twenty", 20, rig.bake(k, 0, 81, 100));
        Check.is("the same ones again", 20, rig.bake(k, 0, 81, 100));
        Check.fails("one more", IllegalStateException.class, () -> rig.bake(k, 0, 80, 80));
        Check.fails("one more with them", IllegalStateException.class, () -> rig.bake(k, 0, 80, 90));
        Check.fails("far too many", IllegalStateException.class, () -> rig.bake(k, 0, -100, 100));
        Check.is("nothing has changed", 81, rig.keyAt(k, 0, 0));
        rig.removeKey(k, 0, 85);
        Check.fails("one too many, whatever is within", IllegalStateException.class, () -> rig.bake(k, 0, 79, 86));
        Check.is("the one that is missing", 20, rig.bake(k, 0, 84, 86));
    }

    private static void bakingEdit() {
        MotionRig rig = new MotionRig();
        int k = rig.addChannel('k', 0, 0, 0, 0);
        int d = rig.addChannel('d', k, 0, 1, 0);
        int other = rig.addChannel('k', 0, 0, 0, 0);
        rig.setKey(k, 0, 0, 5, 'l');
        rig.setKey(k, 0, 1, 5, 'l');
        rig.value(d);
        rig.value(k);
        rig.value(other);
        rig.bake(k, 0, 0, 1);
        Check.is("keys that are the same make nothing dirty", true, rig.isClean(k) && rig.isClean(d));
        rig.bake(k, 0, 0, 2);
        Check.is("others do", false, rig.isClean(k) || rig.isClean(d));
        Check.is("but not other channels", true, rig.isClean(other));
        Check.is("one edit", true, rig.undo());
        Check.is("with all keys", 2, rig.keys(k, 0));
        Check.is("the same keys were none", true, rig.undo());
        Check.is("key", 1, rig.keys(k, 0));
    }

    private static void bakingWrong() {
        MotionRig rig = new MotionRig();
        rig.addChannel('k', 0, 0, 0, 0);
        rig.addChannel('t', 0, 0, 0, 0);
        for (int bad : new int[] {2, -1, Integer.MAX_VALUE, Integer.MIN_VALUE}) {
            Check.fails("channel " + bad, IndexOutOfBoundsException.class, () -> rig.bake(bad, 0, 1, 0));
            Check.fails("layer " + bad, IndexOutOfBoundsException.class, () -> rig.bake(0, bad, 0, 101));
            Check.fails("thin channel " + bad, IndexOutOfBoundsException.class, () -> rig.thin(bad, 0, -1));
            Check.fails("thin layer " + bad, IndexOutOfBoundsException.class, () -> rig.thin(0, bad, 1001));
        }
        for (int bad : new int[] {101, -101, Integer.MAX_VALUE, Integer.MIN_VALUE}) {
            Check.fails("from " + bad, IllegalArgumentException.class, () -> rig.bake(0, 0, bad, 100));
            Check.fails("to " + bad, IllegalArgumentException.class, () -> rig.bake(0, 0, -100, bad));
            Check.fails("both " + bad, IllegalArgumentException.class, () -> rig.bake(0, 0, bad, bad));
        }
        Check.fails("the last one ahead", IllegalArgumentException.class, () -> rig.bake(0, 0, 3, 2));
        Check.fails("which is ahead of the kind", IllegalArgumentException.class, () -> rig.bake(1, 0, 3, 2));
        Check.fails("'t' is not baked", UnsupportedOperationException.class, () -> rig.bake(1, 0, 0, 0));
        Check.fails("which is ahead of the number", UnsupportedOperationException.class,
            () -> rig.bake(1, 0, -100, 100));
    }

    private static MotionRig curve(int... pairs) {
        MotionRig rig = new MotionRig();
        rig.addChannel('k', 0, 0, 0, 0);
        for (int i = 0; i < pairs.length; i += 2) {
            rig.setKey(0, 0, pairs[i], pairs[i + 1], 's');
        }
        return rig;
    }

    private static void thinning() {
        Check.is("no keys", 0, curve().thin(0, 0, 1000));
        Check.is("one key", 0, curve(1, 5).thin(0, 0, 1000));
        Check.is("two keys", 0, curve(1, 5, 2, 5).thin(0, 0, 1000));
        MotionRig rig = curve(0, 0, 1, 10, 2, 20, 4, 40, 5, 41, 8, 44);
        Check.is("those on lines", 3, rig.thin(0, 0, 0));
        Check.is("the first one is left", 0, rig.keyAt(0, 0, 0));
        Check.is("the bend is left", 4, rig.keyAt(0, 0, 1));
        Check.is("the last one is left", 8, rig.keyAt(0, 0, 2));
        Check.is("and no more", 3, rig.keys(0, 0));
        Check.is("with its value", 44, rig.keyValue(0, 0, 2));
        Check.is("and its kind", 40.0, rig.valueAt(0, 31));
        Check.is("again", 0, rig.thin(0, 0, 0));
        Check.is("by 1000", 1, rig.thin(0, 0, 1000));
        Check.is("two are left", 2, rig.keys(0, 0));
    }

    private static void thinningByBound() {
        Check.is("7 from the line, by 6", 0, curve(0, 0, 1, 7, 2, 0).thin(0, 0, 6));
        Check.is("7 from the line, by 7", 1, curve(0, 0, 1, 7, 2, 0).thin(0, 0, 7));
        Check.is("7 below the line, by 6", 0, curve(0, 0, 1, -7, 2, 0).thin(0, 0, 6));
        Check.is("7 below the line, by 7", 1, curve(0, 0, 1, -7, 2, 0).thin(0, 0, 7));
        Check.is("half from the line, by 0", 0, curve(0, 0, 1, 1, 2, 1).thin(0, 0, 0));
        Check.is("half from the line, by 1", 1, curve(0, 0, 1, 1, 2, 1).thin(0, 0, 1));
        Check.is("2000 from the line, by 1000", 0, curve(0, -1000, 1, 1000, 2, -1000).thin(0, 0, 1000));
        Check.is("49 / 49 by the operations of doubles is not 1", false, 49.0 * (1.0 / 49.0) == 1.0);
        Check.is("so that a line that is cut so misses it", 0, curve(0, 0, 1, 1, 49, 49).thin(0, 0, 0));
        Check.is("and this one does not", 1, curve(0, 0, 1, 1, 48, 48).thin(0, 0, 0));
    }

    private static void thinningFromWhatIsLeft() {
        // The key 1 goes first; then the line to the key 2 goes from the key 0, and not from the key 1.
        MotionRig rig = curve(0, 0, 1, 4, 2, 0, 3, 4, 4, 0);
        Check.is("from the key that is left", 3, rig.thin(0, 0, 4));
        MotionRig bent = curve(0, 0, 1, 1, 2, 4, 3, 9, 4, 16, 5, 25, 6, 36);
        // 1 and 2 go (2 - 1, then 6 - 4), 3 stays (12 - 9), 4 and 5 go from there (17 - 16, then 27 - 25).
        Check.is("a bent curve", 4, bent.thin(0, 0, 2));
        Check.is("what is left", 3, bent.keyAt(0, 0, 1));
        Check.is("what is left", 6, bent.keyAt(0, 0, 2));
        MotionRig next = curve(0, 0, 1, 5, 2, 10, 3, 0);
        Check.is("to the next one, which is there yet", 1, next.thin(0, 0, 0));
        Check.is("what is left", 2, next.keyAt(0, 0, 1));
    }

    private static void thinningFull() {
        MotionRig rig = curve();
        rig.addLayer('+');
        for (int i = 0; i < 20; i++) {
            rig.setKey(0, 0, i, i % 2 * 1000, 's');
        }
        rig.setKey(0, 1, 50, 0, 's');
        Check.is("none of these", 0, rig.thin(0, 0, 10));
        Check.is("all but the first and the last one", 18, rig.thin(0, 0, 1000));
        Check.is("the last one is left", 19, rig.keyAt(0, 0, 1));
        Check.is("the next curve is another one", 50, rig.keyAt(0, 1, 0));
    }

    private static void thinningEdit() {
        MotionRig rig = curve(0, 0, 1, 1, 2, 2);
        int d = rig.addChannel('d', 0, 0, 1, 0);
        rig.value(0);
        rig.value(d);
        rig.setKey(0, 0, 1, 2, 's');
        rig.value(0);
        rig.value(d);
        Check.is("nothing to thin", 0, rig.thin(0, 0, 0));
        Check.is("makes nothing dirty", true, rig.isClean(0) && rig.isClean(d));
        Check.is("and is no edit", true, rig.undo());
        rig.value(0);
        rig.value(d);
        Check.is("one to thin", 1, rig.thin(0, 0, 0));
        Check.is("makes dirty", false, rig.isClean(0) || rig.isClean(d));
        Check.is("and is an edit", true, rig.undo());
        Check.is("its key", 1, rig.keyValue(0, 0, 1));
        rig.addLayer('o');
        rig.setKey(0, 1, 0, 3, 'e');
        rig.setKey(0, 1, 1, 3, 'e');
        rig.setKey(0, 1, 2, 3, 'e');
        Check.is("on another layer", 1, rig.thin(0, 1, 0));
        Check.is("and not on this one", 3, rig.keys(0, 0));
    }

    private static void thinningWrong() {
        MotionRig rig = curve(0, 0, 1, 1, 2, 2);
        rig.addChannel('t', 0, 0, 0, 0);
        for (int bad : new int[] {-1, 1001, Integer.MAX_VALUE, Integer.MIN_VALUE}) {
            Check.fails("bound " + bad, IllegalArgumentException.class, () -> rig.thin(0, 0, bad));
            Check.fails("bound ahead of the kind", IllegalArgumentException.class, () -> rig.thin(1, 0, bad));
        }
        Check.fails("'t' is not thinned", UnsupportedOperationException.class, () -> rig.thin(1, 0, 0));
        Check.is("nothing has changed", 3, rig.keys(0, 0));
    }
}
