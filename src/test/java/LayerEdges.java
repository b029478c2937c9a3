/** The paragraph 'Layers' of the document, and promises 10 to 13. */
final class LayerEdges {
    private LayerEdges() {
    }

    static void run() {
        threeMore();
        mixing();
        mixingInOrder();
        withoutKeys();
        adding();
        weighing();
        muting();
        leavingOut();
    }

    /** The value 40 on the layer 0, and the value 10 on a layer 1 of this kind. */
    private static MotionRig over(char kind) {
        MotionRig rig = House.curve('s', 0, 40);
        rig.addLayer(kind);
        rig.setKey(0, 1, 0, 10, 's');
        return rig;
    }

    private static void threeMore() {
        Edge.holds("Layers", "There is the layer 0; at most 3 more are numbered from 1 on, each of the kind '+', "
            + "added, or 'o', overriding, with a weight from 0 to 100, 100 at first; it can be muted, and can leave "
            + "channels out.");
        MotionRig rig = House.row("k");
        Edge.is("the layer 0 is there", 0, rig.keys(0, 0));
        Edge.is("and no other one", "throws IndexOutOfBoundsException", () -> rig.keys(0, 1));
        for (int layer = 1; layer <= 3; layer++) {
            int next = layer + 1;
            Edge.is("the number", layer, rig.addLayer(layer == 2 ? 'o' : '+'));
            Edge.is("100 at first", 100, rig.weigh(layer, 100));
            Edge.is("not muted at first", false, rig.mute(layer, false));
            Edge.is("leaves nothing out at first", false, rig.leaveOut(layer, 0, false));
            Edge.is("no keys at first", 0, rig.keys(0, layer));
            Edge.is("and no next one", "throws IndexOutOfBoundsException", () -> rig.keys(0, next));
        }
        Edge.is("not a fourth", "throws IllegalStateException", () -> rig.addLayer('+'));
    }

    private static void mixing() {
        Edge.holds("Layers", "with c as that of its curve and w as the weight divided by 100.0: for '+', it becomes "
            + "itself plus w * c; for 'o', itself times (1.0 - w), plus w * c.");
        for (int weight = 0; weight <= 100; weight++) {
            MotionRig added = over('+');
            added.weigh(1, weight);
            double w = weight / 100.0;
            Edge.is("added by " + weight, 40.0 + w * 10.0, added.value(0));
            MotionRig instead = over('o');
            instead.weigh(1, weight);
            Edge.is("overriding by " + weight, 40.0 * (1.0 - w) + w * 10.0, instead.value(0));
        }
        MotionRig least = over('o');
        least.weigh(1, 0);
        Edge.is("by the weight 0 the layer 0", 40.0, least.value(0));
        Edge.is("by the weight 100 the layer 1", 10.0, over('o').value(0));
        Edge.is("by the weight 100 both", 50.0, over('+').value(0));
    }

    private static void mixingInOrder() {
        Edge.holds("Layers", "The value of a channel of the kind 'k' is that of its curve on the layer 0; then, for "
            + "each layer by rising numbers that is not muted, does not leave it out, and on which it has keys");
        for (int muted = 0; muted < 8; muted++) {
            for (int out = 0; out < 8; out++) {
                MotionRig rig = over('+');
                rig.addLayer('o');
                rig.addLayer('+');
                rig.setKey(0, 2, 0, -100, 's');
                rig.setKey(0, 3, 0, 7, 's');
                rig.weigh(2, 25);
                double due = 40.0;
                for (int layer = 1; layer <= 3; layer++) {
                    boolean isMuted = (muted >> layer - 1 & 1) == 1;
                    boolean isOut = (out >> layer - 1 & 1) == 1;
                    rig.mute(layer, isMuted);
                    rig.leaveOut(layer, 0, isOut);
                    if (!isMuted && !isOut) {
                        due = layer == 1 ? due + 1.0 * 10.0 : layer == 2 ? due * 0.75 + 0.25 * -100.0 : due + 7.0;
                    }
                }
                Edge.is("muted " + muted + ", left out " + out, due, rig.value(0));
            }
        }
    }

    private static void withoutKeys() {
        Edge.holds("Layers", "and on which it has keys");
        MotionRig rig = House.curve('s', 0, 40);
        rig.addLayer('o');
        rig.extend(0, 1, 'c', 'o');
        Edge.is("a layer without keys does not override", 40.0, rig.value(0));
        rig.setKey(0, 1, 100, 0, 's');
        Edge.is("one with a key does, everywhere", 0.0, rig.valueAt(0, -400));
        rig.removeKey(0, 1, 100);
        Edge.is("and no more without it", 40.0, rig.value(0));
        rig.removeKey(0, 0, 0);
        rig.setKey(0, 1, 0, 8, 's');
        rig.weigh(1, 50);
        Edge.is("without keys on the layer 0", 0.0 * 0.5 + 0.5 * 8.0, rig.value(0));
    }

    private static MotionRig four() {
        MotionRig rig = House.row("k");
        rig.addLayer('+');
        rig.addLayer('o');
        rig.addLayer('+');
        return rig;
    }

    private static void adding() {
        Edge.holds("Promise 10", "`kind`: '+' or 'o'", "Returns the number of the layer.");
        Edge.is("the first one", 1, new MotionRig().addLayer('+'));
        Edge.is("the first one", 1, new MotionRig().addLayer('o'));
        Edge.is("the third one", 3, House.furnished().addLayer('o'));
        Edge.holds("Promise 10", "Throws `IllegalArgumentException` if there is no such kind");
        Edge.refusedBeside("+o", Edge.ARGUMENT, (rig, kind) -> rig.addLayer(kind));
        Edge.holds("Promise 10", "Throws `IllegalStateException` if there are 3 besides the layer 0");
        Edge.refused(LayerEdges::four, "a fourth, added", Edge.STATE, rig -> rig.addLayer('+'));
        Edge.refused(LayerEdges::four, "a fourth, overriding", Edge.STATE, rig -> rig.addLayer('o'));
        Edge.holds("Exceptions", "If several exceptions apply, the one that is documented first is thrown.");
        Edge.refused(LayerEdges::four, "addLayer: no kind, full", Edge.ARGUMENT, rig -> rig.addLayer('-'));
        Edge.refusedFor(House.NO_UPPER_LAYER, Edge.INDEX, (rig, layer) -> rig.weigh(layer, 101));
        Edge.refusedFor(House.NO_UPPER_LAYER, Edge.INDEX, (rig, layer) -> rig.weigh(layer, -1));
    }

    private static void weighing() {
        Edge.holds("Promise 11", "`layer`: the number of the layer, but not 0", "`weight`: the weight",
            "Returns the weight before.");
        MotionRig rig = four();
        for (int layer = 1; layer <= 3; layer++) {
            int before = 100;
            for (int weight : new int[] {0, 1, 99, 100, 100, 50 + layer}) {
                Edge.is("before " + weight, before, rig.weigh(layer, weight));
                before = weight;
            }
        }
        Edge.is("each layer has its own", 51, rig.weigh(1, 0));
        Edge.is("each layer has its own", 53, rig.weigh(3, 0));
        Edge.holds("Promise 11", "Throws `IndexOutOfBoundsException` if there is no such layer");
        Edge.refusedFor(House.NO_UPPER_LAYER, Edge.INDEX, (r, layer) -> r.weigh(layer, 50));
        Edge.refused(MotionRig::new, "no layer 1", Edge.INDEX, r -> r.weigh(1, 50));
        Edge.holds("Promise 11", "Throws `IllegalArgumentException` if it is out of range");
        Edge.refusedFor(Edge.beside(0, 100), Edge.ARGUMENT, (r, weight) -> r.weigh(1, weight));
    }

    private static void muting() {
        Edge.holds("Promise 12", "`layer`: the number of the layer, but not 0", "`is`: whether it is",
            "Returns whether it was.");
        MotionRig rig = four();
        for (int layer = 1; layer <= 3; layer++) {
            Edge.is("not at first", false, rig.mute(layer, true));
            Edge.is("it was", true, rig.mute(layer, true));
            Edge.is("it was", true, rig.mute(layer, false));
            Edge.is("no more", false, rig.mute(layer, layer == 2));
        }
        Edge.is("each layer has its own", true, rig.mute(2, true));
        Edge.is("each layer has its own", false, rig.mute(3, true));
        Edge.holds("Promise 12", "Throws `IndexOutOfBoundsException` if there is no such layer");
        Edge.refusedFor(House.NO_UPPER_LAYER, Edge.INDEX, (r, layer) -> r.mute(layer, true));
        Edge.refusedFor(House.NO_UPPER_LAYER, Edge.INDEX, (r, layer) -> r.mute(layer, false));
    }

    private static void leavingOut() {
        Edge.holds("Promise 13", "`layer`: the number of the layer, but not 0", "`channel`: the number of the channel",
            "`is`: whether it does", "Returns whether it did.");
        MotionRig rig = House.row("kttttttttttttttk");
        rig.addLayer('+');
        rig.addLayer('+');
        rig.addLayer('+');
        for (int layer = 1; layer <= 3; layer++) {
            for (int c : new int[] {0, 1, 14, 15}) {
                Edge.is("not at first", false, rig.leaveOut(layer, c, true));
                Edge.is("it did", true, rig.leaveOut(layer, c, true));
                Edge.is("it did", true, rig.leaveOut(layer, c, c == 15));
                Edge.is("as it was set", c == 15, rig.leaveOut(layer, c, c == 15));
            }
        }
        Edge.is("each channel has its own", false, rig.leaveOut(3, 14, false));
        Edge.is("each layer has its own", true, rig.leaveOut(1, 15, false));
        Edge.is("each layer has its own", true, rig.leaveOut(3, 15, false));
        Edge.holds("Promise 13", "Throws `IndexOutOfBoundsException` if there is no such layer or channel");
        Edge.refusedFor(House.NO_UPPER_LAYER, Edge.INDEX, (r, layer) -> r.leaveOut(layer, 0, true));
        Edge.refusedFor(House.NO_CHANNEL, Edge.INDEX, (r, c) -> r.leaveOut(1, c, true));
        Edge.refusedFor(House.NO_CHANNEL, Edge.INDEX, (r, c) -> r.leaveOut(0, c, false));
    }
}
