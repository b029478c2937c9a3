/** The paragraph 'Baking and thinning' of the document, and promises 28 and 29. */
final class BakeEdges {
    private BakeEdges() {
    }

    static void run() {
        baking();
        halves();
        heldValues();
        asTheyAre();
        bakedFrames();
        bakingRefused();
        bakingFull();
        thinning();
        firstAndLast();
        bounds();
        thinningRefused();
        order();
    }

    private static void baking() {
        Edge.holds("Baking and thinning", "To bake a channel of the kind 'k' on a layer, from a frame to another one, "
            + "keys are set there at each frame of these, of the kind 'l', with the values that the channel has then, "
            + "as by valueAt()");
        MotionRig rig = House.curve('e', -100, -1000, 100, 1000);
        rig.addLayer('o');
        double[] values = new double[19];
        for (int i = 0; i < 19; i++) {
            values[i] = rig.valueAt(0, 4 * (i - 9));
        }
        Edge.is("nineteen on another layer", 19, rig.bake(0, 1, -9, 9));
        for (int i = 0; i < 19; i++) {
            Edge.is("frame", i - 9, rig.keyAt(0, 1, i));
            Edge.is("value at " + (i - 9), (int) Math.rint(values[i]), rig.keyValue(0, 1, i));
        }
        double a = rig.valueAt(0, 0);
        double b = rig.valueAt(0, 4);
        Edge.is("lines", a + (b - a) * 0.25, rig.valueAt(0, 1));
        Edge.is("no runs", 0, rig.runs());
        MotionRig named = House.curve('s', 0, 5);
        named.name(0, 'q');
        named.override('q', -1000);
        named.bake(0, 0, 3, 3);
        Edge.is("an override is the value then", -1000, named.keyValue(0, 0, 1));
        MotionRig changed = House.curve('s', 0, 5);
        changed.valueAt(0, 12);
        changed.setKey(0, 0, 0, 6, 's');
        changed.bake(0, 0, 3, 3);
        Edge.is("as it is then, and not as it was reckoned before", 6, changed.keyValue(0, 0, 1));
        MotionRig muted = House.curve('s', 0, 5);
        muted.addLayer('+');
        muted.mute(1, true);
        muted.bake(0, 1, 3, 3);
        Edge.is("on a muted layer", 5, muted.keyValue(0, 1, 0));
    }

    private static void halves() {
        Edge.holds("Baking and thinning", "by Math.rint");
        int[][] rows = {{0, 1, 0}, {1, 2, 2}, {2, 3, 2}, {3, 4, 4}, {-1, 0, 0}, {-2, -1, -2}, {-3, -2, -2},
            {999, 1000, 1000}, {-1000, -999, -1000}, {998, 999, 998}};
        for (int[] row : rows) {
            MotionRig rig = House.curve('l', -1, row[0], 1, row[1]);
            rig.bake(0, 0, 0, 0);
            Edge.is("half of " + row[0] + " and " + row[1], row[2], rig.keyValue(0, 0, 1));
        }
        MotionRig quarters = House.curve('l', 0, 0, 4, 3);
        quarters.bake(0, 0, 1, 3);
        Edge.is("0.75", 1, quarters.keyValue(0, 0, 1));
        Edge.is("1.5", 2, quarters.keyValue(0, 0, 2));
        Edge.is("2.25", 2, quarters.keyValue(0, 0, 3));
    }

    private static void heldValues() {
        Edge.holds("Baking and thinning", "held from -1000 to 1000");
        int[][] rows = {{1000, 0, 1000}, {1000, 1, 1000}, {999, 1, 1000}, {999, 0, 999}, {1000, 1000, 1000},
            {-1000, 0, -1000}, {-1000, -1, -1000}, {-999, -1, -1000}, {-999, 0, -999}, {-1000, -1000, -1000},
            {1000, -1, 999}, {-1000, 1, -999}};
        for (int[] row : rows) {
            MotionRig rig = House.curve('s', 0, row[0]);
            rig.addLayer('+');
            rig.setKey(0, 1, 0, row[1], 's');
            rig.bake(0, 0, 5, 5);
            Edge.is(row[0] + " and " + row[1], row[2], rig.keyValue(0, 0, 1));
        }
        MotionRig far = House.curve('l', -100, -1000, -99, 1000);
        far.extend(0, 0, 'h', 'o');
        far.bake(0, 0, 100, 100);
        Edge.is("the furthest value of a curve", 1000, far.keyValue(0, 0, 2));
    }

    private static void asTheyAre() {
        Edge.holds("Baking and thinning", "all as they are ahead of the baking.");
        MotionRig rig = House.curve('s', 0, 10);
        rig.addLayer('+');
        rig.setKey(0, 1, 0, 100, 's');
        rig.bake(0, 0, 0, 4);
        for (int i = 0; i < 5; i++) {
            Edge.is("key " + i, 110, rig.keyValue(0, 0, i));
        }
        MotionRig line = House.curve('l', 0, 0, 1, 0, 20, 190);
        line.bake(0, 0, 2, 6);
        for (int i = 2; i <= 6; i++) {
            Edge.is("a line that the first keys would bend", 10 * (i - 1), line.keyValue(0, 0, i));
        }
        MotionRig end = House.curve('l', 0, 0, 1, 7);
        end.extend(0, 0, 'h', 'o');
        end.bake(0, 0, 2, 9);
        Edge.is("an end that the first keys would move", 63, end.keyValue(0, 0, 9));
    }

    private static void bakedFrames() {
        Edge.holds("Promise 28", "`channel`: the number of the channel", "`layer`: the number of the layer",
            "`from`: the first frame", "`to`: the last frame", "Returns the number of keys that the curve has then.");
        int[][] rows = {{-100, -100, 1}, {-100, -99, 2}, {-100, -81, 20}, {99, 100, 2}, {100, 100, 1}, {81, 100, 20},
            {0, 0, 1}, {-10, 9, 20}};
        for (int[] row : rows) {
            MotionRig rig = House.row("k");
            Edge.is("from " + row[0] + " to " + row[1], row[2], rig.bake(0, 0, row[0], row[1]));
            Edge.is("the first one", row[0], rig.keyAt(0, 0, 0));
            Edge.is("the last one", row[1], rig.keyAt(0, 0, row[2] - 1));
        }
        MotionRig last = House.row("tttttttttttttttk");
        last.addLayer('o');
        last.addLayer('o');
        last.addLayer('o');
        Edge.is("the last channel and layer", 3, last.bake(15, 3, 98, 100));
    }

    private static void bakingRefused() {
        Edge.holds("Promise 28", "Throws `IndexOutOfBoundsException` if there is no such channel or layer");
        Edge.refusedFor(House.NO_CHANNEL, Edge.INDEX, (rig, c) -> rig.bake(c, 0, 0, 0));
        Edge.refusedFor(House.NO_LAYER, Edge.INDEX, (rig, layer) -> rig.bake(0, layer, 0, 0));
        Edge.holds("Promise 28", "Throws `IllegalArgumentException` if a frame is out of range, or the last one is "
            + "ahead of the first one");
        Edge.refusedFor(Edge.beside(-100, 100), Edge.ARGUMENT, (rig, from) -> rig.bake(0, 0, from, 100));
        Edge.refusedFor(Edge.beside(-100, 100), Edge.ARGUMENT, (rig, from) -> rig.bake(0, 0, from, from));
        Edge.refusedFor(Edge.beside(-100, 100), Edge.ARGUMENT, (rig, to) -> rig.bake(0, 0, -100, to));
        Edge.refusedFor(Edge.beside(-100, 100), Edge.ARGUMENT, (rig, to) -> rig.bake(0, 0, 100, to));
        Edge.refused("one ahead", Edge.ARGUMENT, rig -> rig.bake(0, 0, 1, 0));
        Edge.refused("far ahead", Edge.ARGUMENT, rig -> rig.bake(0, 0, 100, -100));
        Edge.refused("from the greatest to the least", Edge.ARGUMENT,
            rig -> rig.bake(0, 0, Edge.MOST_INT, Edge.LEAST_INT));
        Edge.refused("from the least to the greatest", Edge.ARGUMENT,
            rig -> rig.bake(0, 0, Edge.LEAST_INT, Edge.MOST_INT));
        Edge.holds("Promise 28", "Throws `UnsupportedOperationException` if the channel is not of the kind 'k'");
        for (char kind : "t+-*%xnasrfcdp".toCharArray()) {
            Edge.refused(() -> House.row("k" + kind), "of the kind " + kind, Edge.UNSUPPORTED,
                rig -> rig.bake(1, 0, 0, 0));
        }
    }

    private static void bakingFull() {
        Edge.holds("Promise 28", "Throws `IllegalStateException` if there would be more than 20 keys");
        Edge.refused("21 frames", Edge.STATE, rig -> rig.bake(1, 1, 0, 20));
        Edge.refused("201 frames", Edge.STATE, rig -> rig.bake(1, 1, -100, 100));
        Edge.refused("18 frames and 3 keys", Edge.STATE, rig -> rig.bake(0, 0, 10, 27));
        Edge.is("17 frames and 3 keys", 20, House.furnished().bake(0, 0, 10, 26));
        Edge.is("20 frames over 3 keys", 20, House.furnished().bake(0, 0, -10, 9));
        Edge.refused("20 frames over 2 of 3 keys", Edge.STATE, rig -> rig.bake(0, 0, -3, 16));
        Edge.refused("one more ahead of 20", Edge.STATE, rig -> rig.bake(House.FULL, 0, 9, 9));
        Edge.refused("one more behind 20", Edge.STATE, rig -> rig.bake(House.FULL, 0, 30, 30));
        Edge.refused("one more with 20", Edge.STATE, rig -> rig.bake(House.FULL, 0, 9, 29));
        Edge.is("the 20 again", 20, House.furnished().bake(House.FULL, 0, 10, 29));
        Edge.is("the first one again", 20, House.furnished().bake(House.FULL, 0, 10, 10));
        Edge.is("the last one again", 20, House.furnished().bake(House.FULL, 0, 29, 29));
    }

    private static void thinning() {
        Edge.holds("Baking and thinning", "a key is taken away if the value of a line, by the formula of lines, from "
            + "the key ahead of it that is left to the next one is at its frame not further than the bound from its "
            + "value.");
        MotionRig rig = House.curve('s', 0, 0, 1, 3, 2, 0, 3, 3, 4, 0);
        Edge.is("by 2: 1 is 3 from its line, 2 is 3 from its own", 0, rig.thin(0, 0, 2));
        Edge.is("by 3: all three", 3, rig.thin(0, 0, 3));
        MotionRig left = House.curve('l', 0, 0, 1, 10, 2, 30, 3, 60);
        // From the key 0 that is left the line to 3 is at 40 for the frame 2; from the taken key 1 it were at 35.
        Edge.is("by 5: 1 goes, 2 is 10 from the line of what is left", 1, left.thin(0, 0, 5));
        Edge.is("by 10: 2 goes", 1, left.thin(0, 0, 10));
        MotionRig formula = House.curve('e', 0, 0, 1, 1, 49, 49);
        Edge.is("by the formula of lines, whatever the kinds", 49.0 * (1.0 / 49.0) == 1.0 ? 1 : 0,
            formula.thin(0, 0, 0));
    }

    private static void firstAndLast() {
        Edge.holds("Baking and thinning", "To thin a curve, its keys but the first and the last one are gone through "
            + "by rising frames");
        Edge.is("no keys", 0, House.row("k").thin(0, 0, 1000));
        Edge.is("one key", 0, House.curve('s', 0, 5).thin(0, 0, 1000));
        Edge.is("two keys", 0, House.curve('s', -100, 5, 100, 5).thin(0, 0, 1000));
        MotionRig three = House.curve('s', -100, 5, 0, 5, 100, 5);
        Edge.is("three keys", 1, three.thin(0, 0, 0));
        Edge.is("the first one is left", -100, three.keyAt(0, 0, 0));
        Edge.is("and the last one", 100, three.keyAt(0, 0, 1));
        MotionRig full = House.furnished();
        full.setKey(House.FULL, 0, 12, 0, 's');
        full.setKey(House.FULL, 1, 50, 0, 's');
        Edge.is("twenty keys", 18, full.thin(House.FULL, 0, 0));
        Edge.is("the first one is left", 10, full.keyAt(House.FULL, 0, 0));
        Edge.is("and the last one", 29, full.keyAt(House.FULL, 0, 1));
    }

    private static void bounds() {
        Edge.holds("Promise 29", "`channel`: the number of the channel", "`layer`: the number of the layer",
            "`bound`: the bound, 0 to 1000", "Returns how many keys are taken away.");
        for (int bound : new int[] {0, 1, 500, 999, 1000}) {
            for (int sign = -1; sign <= 1; sign += 2) {
                MotionRig at = House.curve('s', 0, 0, 1, sign * bound, 2, 0);
                Edge.is("as far as the bound " + sign * bound, 1, at.thin(0, 0, bound));
                Edge.is("what is left", 2, at.keys(0, 0));
                int more = Math.min(bound + 1, 1000);
                MotionRig over = House.curve('s', 0, -sign, 1, sign * more, 2, -sign);
                Edge.is("one further than the bound " + sign * bound, 0, over.thin(0, 0, bound));
                Edge.is("what is left", 3, over.keys(0, 0));
            }
        }
        Edge.is("half as far as 1, by 0", 0, House.curve('s', 0, 0, 1, 1, 2, 1).thin(0, 0, 0));
        Edge.is("half as far as 1, by 1", 1, House.curve('s', 0, 0, 1, 1, 2, 1).thin(0, 0, 1));
        Edge.is("2000 by 1000", 0, House.curve('s', 0, -1000, 1, 1000, 2, -1000).thin(0, 0, 1000));
        MotionRig layered = House.furnished();
        layered.bake(0, 2, -100, -98);
        Edge.is("on another layer", 1, layered.thin(0, 2, 1000));
        Edge.is("and not on this one", 3, layered.keys(0, 0));
    }

    private static void thinningRefused() {
        Edge.holds("Promise 29", "Throws `IndexOutOfBoundsException` if there is no such channel or layer");
        Edge.refusedFor(House.NO_CHANNEL, Edge.INDEX, (rig, c) -> rig.thin(c, 0, 1));
        Edge.refusedFor(House.NO_LAYER, Edge.INDEX, (rig, layer) -> rig.thin(0, layer, 1));
        Edge.holds("Promise 29", "Throws `IllegalArgumentException` if the bound is out of range");
        Edge.refusedFor(Edge.beside(0, 1000), Edge.ARGUMENT, (rig, bound) -> rig.thin(0, 0, bound));
        Edge.refusedFor(Edge.beside(0, 1000), Edge.ARGUMENT, (rig, bound) -> rig.thin(House.FULL, 0, bound));
        Edge.holds("Promise 29", "Throws `UnsupportedOperationException` if the channel is not of the kind 'k'");
        for (char kind : "t+-*%xnasrfcdp".toCharArray()) {
            Edge.refused(() -> House.row("k" + kind), "of the kind " + kind, Edge.UNSUPPORTED,
                rig -> rig.thin(1, 0, 0));
        }
    }

    private static void order() {
        Edge.holds("Exceptions", "If several exceptions apply, the one that is documented first is thrown.");
        Edge.refused("bake: no channel, no frame", Edge.INDEX, rig -> rig.bake(7, 0, 101, 0));
        Edge.refused("bake: no layer, the last one ahead", Edge.INDEX, rig -> rig.bake(0, 3, 1, 0));
        Edge.refused("bake: no layer, no curve", Edge.INDEX, rig -> rig.bake(2, 3, 0, 0));
        Edge.refused("bake: no layer, too many", Edge.INDEX, rig -> rig.bake(0, -1, -100, 100));
        Edge.refused("bake: no frame, no curve", Edge.ARGUMENT, rig -> rig.bake(2, 0, -101, 0));
        Edge.refused("bake: the last one ahead, no curve", Edge.ARGUMENT, rig -> rig.bake(2, 0, 1, 0));
        Edge.refused("bake: no frame, too many", Edge.ARGUMENT, rig -> rig.bake(0, 0, -100, 101));
        Edge.refused("bake: the last one ahead, full", Edge.ARGUMENT, rig -> rig.bake(House.FULL, 0, 9, 8));
        Edge.refused("bake: no curve, too many", Edge.UNSUPPORTED, rig -> rig.bake(2, 0, -100, 100));
        Edge.refused("thin: no channel, no bound", Edge.INDEX, rig -> rig.thin(-1, 0, 1001));
        Edge.refused("thin: no layer, no bound", Edge.INDEX, rig -> rig.thin(0, 3, -1));
        Edge.refused("thin: no layer, no curve", Edge.INDEX, rig -> rig.thin(2, 3, 0));
        Edge.refused("thin: no bound, no curve", Edge.ARGUMENT, rig -> rig.thin(2, 0, 1001));
    }
}
