/** Promises 10 to 13: layers, their weights, muting and leaving out. */
public final class LayersTest {
    private static final int[] NO_LAYERS = {0, -1, 2, 4, Integer.MAX_VALUE, Integer.MIN_VALUE};

    private LayersTest() {
    }

    public static void main(String[] args) {
        adding();
        mixing();
        weighing();
        weighingWrong();
        muting();
        leavingOut();
        Check.end("LayersTest");
    }

    /** The channels 0 and 1 with curves, 2 of the time, 3 that depends on 0; the layer 1 of a kind, with keys of 0. */
    private static MotionRig rig(char kind) {
        MotionRig rig = new MotionRig();
        ChannelsTest.constant(rig, 10);
        ChannelsTest.constant(rig, 20);
        rig.addChannel('t', 0, 0, 0, 0);
        rig.addChannel('p', 0, 0, 1, 1);
        rig.addLayer(kind);
        rig.setKey(0, 1, 0, 3, 's');
        return rig;
    }

    private static void adding() {
        MotionRig rig = new MotionRig();
        rig.addChannel('k', 0, 0, 0, 0);
        rig.value(0);
        for (char bad : new char[] {'x', 'k', '-', 'O', 0, 0x12b}) {
            Check.fails("kind " + (int) bad, IllegalArgumentException.class, () -> rig.addLayer(bad));
        }
        Check.is("the first one", 1, rig.addLayer('+'));
        Check.is("the second one", 2, rig.addLayer('o'));
        Check.is("the third one", 3, rig.addLayer('o'));
        Check.fails("the fourth one", IllegalStateException.class, () -> rig.addLayer('+'));
        Check.fails("kind ahead of the fourth one", IllegalArgumentException.class, () -> rig.addLayer('?'));
        Check.is("adding makes nothing dirty", true, rig.isClean(0));
        Check.is("and is no edit", false, rig.undo());
        Check.is("100 at first", 100, rig.weigh(3, 5));
        Check.is("not muted at first", false, rig.mute(2, false));
        Check.is("leaves nothing out at first", false, rig.leaveOut(2, 0, false));
    }

    private static void mixing() {
        MotionRig plus = rig('+');
        Check.is("added", 13.0, plus.value(0));
        Check.is("without keys there", 20.0, plus.value(1));
        plus.weigh(1, 30);
        Check.is("by its weight", 10.0 + 30 / 100.0 * 3.0, plus.value(0));
        MotionRig over = rig('o');
        Check.is("overridden", 3.0, over.value(0));
        Check.is("without keys there", 20.0, over.value(1));
        over.weigh(1, 30);
        double w = 30 / 100.0;
        double mixed = 10.0 * (1.0 - w) + w * 3.0;
        Check.is("by its weight", mixed, over.value(0));
        over.addLayer('+');
        over.setKey(0, 2, -5, 100, 'l');
        over.setKey(0, 2, 5, 200, 'l');
        over.weigh(2, 7);
        Check.is("by rising numbers", mixed + 7 / 100.0 * 150.0, over.valueAt(0, 0));
        over.addLayer('o');
        over.setKey(0, 3, 0, -1000, 's');
        Check.is("the last one overrides all", -1000.0, over.value(0));
        over.weigh(3, 0);
        Check.is("but not with the weight 0", mixed + 7 / 100.0 * 150.0, over.value(0));
        over.removeKey(0, 0, 0);
        Check.is("nothing on the layer 0", 0.0 * (1.0 - w) + w * 3.0 + 7 / 100.0 * 150.0, over.value(0));
    }

    private static void weighing() {
        MotionRig rig = rig('+');
        for (int c = 0; c < 4; c++) {
            rig.value(c);
        }
        Check.is("the weight before", 100, rig.weigh(1, 100));
        Check.is("the same one makes nothing dirty", true, rig.isClean(0));
        Check.is("the weight before", 100, rig.weigh(1, 0));
        Check.is("all with curves are dirty", false, rig.isClean(0) || rig.isClean(1));
        Check.is("and what depends on them", false, rig.isClean(3));
        Check.is("and nothing else", true, rig.isClean(2));
        Check.is("of no weight", 10.0, rig.value(0));
        Check.is("the weight before", 0, rig.weigh(1, 55));
        Check.is("value", 10.0 + 55 / 100.0 * 3.0, rig.value(0));
        Check.is("it is an edit", true, rig.undo());
        Check.is("back", 10.0, rig.value(0));
        Check.is("the other one", true, rig.undo());
        Check.is("back", 13.0, rig.value(0));
        Check.is("the same weight was none: now the key goes", true, rig.undo());
        Check.is("key", 0, rig.keys(0, 1));
    }

    private static void weighingWrong() {
        MotionRig rig = rig('+');
        for (int bad : NO_LAYERS) {
            Check.fails("layer " + bad, IndexOutOfBoundsException.class, () -> rig.weigh(bad, 101));
            Check.fails("layer " + bad, IndexOutOfBoundsException.class, () -> rig.mute(bad, true));
            Check.fails("layer " + bad, IndexOutOfBoundsException.class, () -> rig.leaveOut(bad, 0, true));
        }
        for (int bad : new int[] {-1, 101, Integer.MAX_VALUE, Integer.MIN_VALUE}) {
            Check.fails("weight " + bad, IllegalArgumentException.class, () -> rig.weigh(1, bad));
        }
        for (int bad : new int[] {-1, 4, 16, Integer.MAX_VALUE, Integer.MIN_VALUE}) {
            Check.fails("channel " + bad, IndexOutOfBoundsException.class, () -> rig.leaveOut(1, bad, true));
        }
        Check.is("nothing has changed", 13.0, rig.value(0));
        Check.is("nothing has changed", 100, rig.weigh(1, 100));
        weighingWithoutCurves();
    }

    private static void weighingWithoutCurves() {
        MotionRig rig = new MotionRig();
        rig.addChannel('t', 0, 0, 0, 0);
        rig.addLayer('+');
        rig.value(0);
        rig.weigh(1, 99);
        rig.mute(1, true);
        rig.leaveOut(1, 0, true);
        Check.is("the time has no curves", true, rig.isClean(0));
        Check.is("an edit all the same", true, rig.undo());
        Check.is("the time has no curves", true, rig.isClean(0));
        Check.is("its weight", 100, rig.weigh(1, 100));
    }

    private static void muting() {
        MotionRig rig = rig('o');
        for (int c = 0; c < 4; c++) {
            rig.value(c);
        }
        Check.is("not yet", false, rig.mute(1, false));
        Check.is("nothing is dirty", 1.0f, rig.cleanShare());
        Check.is("not yet", false, rig.mute(1, true));
        Check.is("all with curves are dirty", false, rig.isClean(0) || rig.isClean(1) || rig.isClean(3));
        Check.is("and nothing else", true, rig.isClean(2));
        Check.is("muted", 10.0, rig.value(0));
        Check.is("over 'p'", 10.0, rig.value(3));
        Check.is("it was", true, rig.mute(1, true));
        Check.is("nothing is dirty", true, rig.isClean(0));
        Check.is("it was", true, rig.mute(1, false));
        Check.is("it is not", 3.0, rig.value(0));
        Check.is("muting is no edit: now the key goes", true, rig.undo());
        Check.is("value", 10.0, rig.value(0));
    }

    private static void leavingOut() {
        MotionRig rig = rig('o');
        rig.setKey(1, 1, 0, 4, 's');
        for (int c = 0; c < 4; c++) {
            rig.value(c);
        }
        Check.is("not yet", false, rig.leaveOut(1, 0, false));
        Check.is("nothing is dirty", 1.0f, rig.cleanShare());
        Check.is("not yet", false, rig.leaveOut(1, 0, true));
        Check.is("all with curves are dirty", false, rig.isClean(0) || rig.isClean(1) || rig.isClean(3));
        Check.is("and nothing else", true, rig.isClean(2));
        Check.is("left out", 10.0, rig.value(0));
        Check.is("the other one is not", 4.0, rig.value(1));
        Check.is("of the other one", false, rig.leaveOut(1, 1, true));
        Check.is("it did", true, rig.leaveOut(1, 0, true));
        Check.is("it did", true, rig.leaveOut(1, 0, false));
        Check.is("no more", 3.0, rig.value(0));
        Check.is("left out", 20.0, rig.value(1));
        Check.is("of any kind", false, rig.leaveOut(1, 2, true));
        Check.is("which makes curves dirty", false, rig.isClean(0));
        Check.is("but not the time", true, rig.isClean(2));
        Check.is("leaving out is no edit: now the key goes", true, rig.undo());
        Check.is("key", 0, rig.keys(1, 1));
        Check.is("the layers are apart", 2, rig.addLayer('+'));
        Check.is("the layers are apart", false, rig.leaveOut(2, 1, true));
    }
}
