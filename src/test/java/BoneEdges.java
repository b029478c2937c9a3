/** The paragraphs 'Bones' and 'Markers' of the document, and promises 21 to 26. */
final class BoneEdges {
    private static final int[] X = {64, 45, 0, -45, -64, -45, 0, 45};
    private static final int[] Y = {0, 45, 64, 45, 0, -45, -64, -45};

    private BoneEdges() {
    }

    static void run() {
        eight();
        turns();
        directions();
        beginnings();
        tips();
        addingRefused();
        addingOrder();
        asking();
        fourMarkers();
        weightsAtFirst();
        sums();
        sumOfNothing();
        offsets();
        followRefused();
        placing();
    }

    /** One bone of the length 64, turned by a channel with this value, from which its direction and tip are told. */
    private static MotionRig turned(int value) {
        MotionRig rig = new MotionRig();
        House.constant(rig, value);
        rig.addBone(-1, 64, 0);
        return rig;
    }

    private static void eight() {
        Edge.holds("Bones", "At most 8 bones are numbered from 0, each with an earlier bone as its parent or none, a "
            + "length from 1 to 100, and a channel that turns it.");
        MotionRig rig = House.row("tk");
        for (int i = 0; i < 8; i++) {
            Edge.is("the number", i, rig.addBone(i - 1, i % 2 == 0 ? 1 : 100, i % 2));
            int next = i + 1;
            Edge.is("no next one", "throws IndexOutOfBoundsException", () -> rig.direction(next));
        }
        Edge.is("the last one", 4.0 + 400.0, rig.tip(7, true));
        Edge.is("not a ninth", "throws IllegalStateException", () -> rig.addBone(-1, 1, 0));
        MotionRig star = House.row("t");
        for (int i = 0; i < 8; i++) {
            Edge.is("the same parent for all", i, star.addBone(i == 0 ? -1 : 0, 1, 0));
        }
        for (int length : Edge.within(1, 100)) {
            Edge.is("of the length " + length, (double) length, one(length).tip(0, true));
        }
    }

    private static MotionRig one(int length) {
        MotionRig rig = House.row("k");
        rig.addBone(-1, length, 0);
        return rig;
    }

    private static void turns() {
        Edge.holds("Bones", "Its turn is Math.rint of the value of this channel, in eighths, modulo 8 as a number from "
            + "0 to 7");
        int[][] rows = {{0, 0}, {1, 1}, {7, 7}, {8, 0}, {9, 1}, {-1, 7}, {-7, 1}, {-8, 0}, {-9, 7}, {1000, 0},
            {-1000, 0}, {999, 7}, {-999, 1}};
        for (int[] row : rows) {
            Edge.is("turned by " + row[0], row[1], turned(row[0]).direction(0));
        }
        MotionRig rig = House.row("t");
        rig.addBone(-1, 64, 0);
        int[][] quarters = {{1, 0}, {2, 0}, {3, 1}, {5, 1}, {6, 2}, {10, 2}, {14, 4}, {-1, 0}, {-2, 0}, {-3, 7},
            {-5, 7}, {-6, 6}, {-10, 6}, {29, 7}, {30, 0}, {31, 0}, {-30, 0}, {-29, 1}, {400, 4}, {-400, 4},
            {398, 4}, {397, 3}};
        for (int[] row : quarters) {
            rig.setTime(row[0]);
            Edge.is("turned by " + row[0] + " quarters", row[1], rig.direction(0));
        }
        MotionRig great = new MotionRig();
        House.constant(great, 1000);
        great.addChannel('*', 0, 0, 0, 0);
        great.addChannel('*', 1, 0, 0, 0);
        int one = House.constant(great, 1);
        great.addChannel('-', 2, one, 0, 0);
        int minus = House.constant(great, -1);
        great.addChannel('*', 4, minus, 0, 0);
        great.addBone(-1, 1, 2);
        great.addBone(-1, 1, 4);
        great.addBone(-1, 1, 6);
        Edge.is("turned by the bound", 0, great.direction(0));
        Edge.is("turned by one less", 7, great.direction(1));
        Edge.is("turned by minus that", 1, great.direction(2));
    }

    private static void directions() {
        Edge.holds("Bones", "its direction is that of its parent plus its turn, modulo 8, or its turn without a "
            + "parent.");
        for (int a = 0; a < 8; a++) {
            for (int b = 0; b < 8; b++) {
                MotionRig rig = turned(a);
                House.constant(rig, b - 8);
                rig.addBone(0, 1, 1);
                rig.addBone(1, 1, 0);
                Edge.is("without a parent", a, rig.direction(0));
                Edge.is(a + " and then " + b, (a + b) % 8, rig.direction(1));
                Edge.is(a + " and then " + b + " and " + a, (a + b + a) % 8, rig.direction(2));
            }
        }
        MotionRig chain = turned(7);
        for (int i = 1; i < 8; i++) {
            chain.addBone(i - 1, 1, 0);
            Edge.is((i + 1) + " times 7", 7 * (i + 1) % 8, chain.direction(i));
        }
    }

    private static void beginnings() {
        Edge.holds("Bones", "It begins at the tip of its parent, or at 0.0, 0.0.");
        MotionRig rig = turned(2);
        rig.addBone(0, 32, 0);
        rig.addBone(0, 16, 0);
        rig.addBone(-1, 8, 0);
        Edge.is("the parent: y", 64.0, rig.tip(0, false));
        Edge.is("on it: x", -32.0, rig.tip(1, true));
        Edge.is("on it: y", 64.0, rig.tip(1, false));
        Edge.is("a second one on it: x", -16.0, rig.tip(2, true));
        Edge.is("without a parent: y", 8.0, rig.tip(3, false));
        Edge.is("without a parent: x", 0.0, rig.tip(3, true));
    }

    private static void tips() {
        Edge.holds("Bones", "Its tip is this plus its length times the number of its direction, divided by 64.0, where "
            + "the numbers of the directions 0 to 7 are 64, 45, 0, -45, -64, -45, 0, 45 for x, and 0, 45, 64, 45, 0, "
            + "-45, -64, -45 for y.");
        for (int turn = 0; turn < 8; turn++) {
            for (int length : Edge.within(1, 100)) {
                MotionRig rig = House.row("k");
                rig.setKey(0, 0, 0, turn - 8, 's');
                rig.addBone(-1, length, 0);
                rig.addBone(0, 100, 0);
                double x = 0.0 + (double) (length * X[turn]) / 64.0;
                double y = 0.0 + (double) (length * Y[turn]) / 64.0;
                Edge.is("x of " + length + " by " + turn, x, rig.tip(0, true));
                Edge.is("y of " + length + " by " + turn, y, rig.tip(0, false));
                int twice = turn * 2 % 8;
                Edge.is("x of the next", x + (double) (100 * X[twice]) / 64.0, rig.tip(1, true));
                Edge.is("y of the next", y + (double) (100 * Y[twice]) / 64.0, rig.tip(1, false));
            }
        }
    }

    private static MotionRig eightBones() {
        MotionRig rig = House.row("kt");
        for (int i = 0; i < 8; i++) {
            rig.addBone(i - 1, 10, i % 2);
        }
        return rig;
    }

    private static void addingRefused() {
        Edge.holds("Promise 21", "`parent`: the number of its parent, or -1", "`length`: its length",
            "`channel`: the number of the channel", "Returns the number of the bone.");
        for (int parent : new int[] {-1, 0, 1, 2, 3}) {
            Edge.is("on " + parent, House.BONES, House.furnished().addBone(parent, 7, 0));
        }
        for (int c : new int[] {0, 1, 5, 6}) {
            Edge.is("turned by " + c, House.BONES, House.furnished().addBone(-1, 7, c));
        }
        for (int length : Edge.within(1, 100)) {
            Edge.is("of the length " + length, House.BONES, House.furnished().addBone(0, length, 0));
        }
        Edge.holds("Promise 21", "Throws `IndexOutOfBoundsException` if there is no such bone or channel");
        for (int parent : new int[] {House.BONES, -2, 7, 8, Edge.LEAST_INT, Edge.MOST_INT}) {
            Edge.refused("on " + parent, Edge.INDEX, rig -> rig.addBone(parent, 7, 0));
        }
        Edge.refused(() -> House.row("k"), "on itself", Edge.INDEX, rig -> rig.addBone(0, 7, 0));
        Edge.refusedFor(House.NO_CHANNEL, Edge.INDEX, (rig, c) -> rig.addBone(-1, 7, c));
        Edge.refused(MotionRig::new, "no channel at all", Edge.INDEX, rig -> rig.addBone(-1, 7, 0));
        Edge.holds("Promise 21", "Throws `IllegalArgumentException` if the length is out of range");
        Edge.refusedFor(Edge.beside(1, 100), Edge.ARGUMENT, (rig, length) -> rig.addBone(0, length, 0));
        Edge.holds("Promise 21", "Throws `IllegalStateException` if there are 8 bones");
        Edge.refused(BoneEdges::eightBones, "a ninth on the last one", Edge.STATE, rig -> rig.addBone(7, 10, 0));
        Edge.refused(BoneEdges::eightBones, "a ninth without a parent", Edge.STATE, rig -> rig.addBone(-1, 10, 0));
    }

    private static void addingOrder() {
        Edge.holds("Exceptions", "If several exceptions apply, the one that is documented first is thrown.");
        Edge.refused("addBone: no parent, no length", Edge.INDEX, rig -> rig.addBone(4, 0, 0));
        Edge.refused("addBone: no channel, no length", Edge.INDEX, rig -> rig.addBone(-1, 101, 7));
        Edge.refused(BoneEdges::eightBones, "addBone: no parent, full", Edge.INDEX, rig -> rig.addBone(8, 1, 0));
        Edge.refused(BoneEdges::eightBones, "addBone: no channel, full", Edge.INDEX, rig -> rig.addBone(0, 1, 2));
        Edge.refused(BoneEdges::eightBones, "addBone: no length, full", Edge.ARGUMENT, rig -> rig.addBone(0, 0, 0));
        Edge.refusedFor(House.NO_MARKER, Edge.INDEX, (rig, marker) -> rig.follow(marker, 0, 10));
        Edge.refusedFor(House.NO_BONE, Edge.INDEX, (rig, bone) -> rig.follow(0, bone, -1));
    }

    private static void asking() {
        Edge.holds("Promise 22", "`bone`: the number of the bone", "Returns the direction.");
        Edge.is("the first one", 3, turned(3).direction(0));
        Edge.is("the last one", 0, eightBones().direction(7));
        Edge.holds("Promise 22", "Throws `IndexOutOfBoundsException` if there is no such bone");
        Edge.refusedFor(House.NO_BONE, Edge.INDEX, (rig, bone) -> rig.direction(bone));
        Edge.refused(MotionRig::new, "no bone at all", Edge.INDEX, rig -> rig.direction(0));
        Edge.holds("Promise 23", "`bone`: the number of the bone", "`isX`: whether x is asked, and not y",
            "Returns the number.");
        Edge.is("x", 45.0, turned(1).tip(0, true));
        Edge.is("y", -45.0, turned(-1).tip(0, false));
        Edge.is("the last one", 80.0, eightBones().tip(7, true));
        Edge.holds("Promise 23", "Throws `IndexOutOfBoundsException` if there is no such bone");
        Edge.refusedFor(House.NO_BONE, Edge.INDEX, (rig, bone) -> rig.tip(bone, true));
        Edge.refusedFor(House.NO_BONE, Edge.INDEX, (rig, bone) -> rig.tip(bone, false));
    }

    private static MotionRig fullOfMarkers() {
        MotionRig rig = turned(1);
        for (int i = 0; i < 4; i++) {
            rig.addMarker();
            rig.follow(i, 0, i);
        }
        return rig;
    }

    private static void fourMarkers() {
        Edge.holds("Markers", "At most 4 markers are numbered from 0.");
        MotionRig rig = new MotionRig();
        for (int i = 0; i < 4; i++) {
            int next = i;
            Edge.is("not yet", "throws IndexOutOfBoundsException", () -> rig.place(next, true));
            Edge.is("the number", i, rig.addMarker());
            Edge.is("where it is", 0.0, rig.place(i, i % 2 == 0));
        }
        Edge.is("not a fifth", "throws IllegalStateException", () -> rig.addMarker());
        Edge.holds("Promise 24", "Returns the number of the marker.",
            "Throws `IllegalStateException` if there are 4 markers");
        Edge.is("the first one", 0, new MotionRig().addMarker());
        Edge.is("the third one", House.MARKERS, House.furnished().addMarker());
        Edge.refused(BoneEdges::fullOfMarkers, "the fifth", Edge.STATE, r -> r.addMarker());
    }

    private static void weightsAtFirst() {
        Edge.holds("Markers", "A marker has a weight from 0 to 9 for each bone, 0 at first, and an offset, 0.0, 0.0 at "
            + "first.");
        MotionRig rig = eightBones();
        for (int marker = 0; marker < 4; marker++) {
            rig.addMarker();
            for (int bone = 0; bone < 8; bone++) {
                Edge.is("0 at first", 0, rig.follow(marker, bone, 9 - bone));
            }
            Edge.is("it is at 0.0 yet", 0.0, rig.place(marker, true));
        }
        for (int marker = 0; marker < 4; marker++) {
            for (int bone = 0; bone < 8; bone++) {
                Edge.is("each has its own", 9 - bone, rig.follow(marker, bone, 9 - bone));
            }
        }
        Edge.holds("Promise 25", "`marker`: the number of the marker", "`bone`: the number of the bone",
            "`weight`: the weight", "Returns the weight before.");
        MotionRig one = fullOfMarkers();
        int before = 3;
        for (int weight : new int[] {0, 1, 8, 9, 9, 0, 0, 5}) {
            Edge.is("before " + weight, before, one.follow(3, 0, weight));
            before = weight;
        }
    }

    /** The place by the words of the document, with the offset that the marker has by now. */
    private static double sum(MotionRig rig, int[] weights, boolean isX) {
        double sum = 0.0;
        double total = 0.0;
        for (int weight : weights) {
            total += weight;
        }
        for (int bone = 0; bone < weights.length; bone++) {
            if (weights[bone] != 0) {
                sum = sum + rig.tip(bone, isX) * weights[bone] / total;
            }
        }
        return sum;
    }

    private static void sums() {
        Edge.holds("Markers", "It is at its offset plus a sum, which begins with 0.0, and to which, by rising bones "
            + "but those with the weight 0, which are not asked, is added each tip times its weight, this product "
            + "divided by the sum of all weights");
        int[][] rows = {{1}, {9}, {0, 1}, {9, 9}, {1, 9}, {9, 1}, {3, 0, 7}, {1, 2, 3, 4, 5, 6, 7, 8},
            {9, 9, 9, 9, 9, 9, 9, 9}, {0, 0, 0, 0, 0, 0, 0, 1}};
        for (int[] weights : rows) {
            MotionRig rig = eightBones();
            rig.setKey(0, 0, 0, 1, 's');
            rig.setKey(0, 0, 1, 6, 'l');
            rig.addMarker();
            for (int bone = 0; bone < weights.length; bone++) {
                rig.follow(0, bone, weights[bone]);
            }
            double offsetX = rig.place(0, true) - sum(rig, weights, true);
            double offsetY = rig.place(0, false) - sum(rig, weights, false);
            for (int time : new int[] {3, 4, -400, 400}) {
                rig.setTime(time);
                near("x at " + time, offsetX + sum(rig, weights, true), rig.place(0, true));
                near("y at " + time, offsetY + sum(rig, weights, false), rig.place(0, false));
            }
        }
        MotionRig asked = House.row("kkk");
        for (int i = 0; i < 3; i++) {
            asked.addBone(-1, 1, i);
        }
        asked.addMarker();
        asked.follow(0, 1, 1);
        Edge.is("bones with the weight 0 are not asked", false, asked.isClean(0) || asked.isClean(2));
        Edge.is("but the one with another weight", true, asked.isClean(1));
    }

    /** The offset is not told by any call, so that it is known here but for the last bits of a double. */
    private static void near(String what, double want, double got) {
        Edge.is(what + ": " + want + " and " + got, true, Math.abs(want - got) < 0.000000001);
    }

    private static void sumOfNothing() {
        Edge.holds("Markers", "with a sum of 0, it is at its offset.");
        MotionRig rig = turned(0);
        rig.addMarker();
        Edge.is("at first: x", 0.0, rig.place(0, true));
        Edge.is("at first: y", 0.0, rig.place(0, false));
        Edge.is("and nothing is asked", 0, rig.runs());
        rig.follow(0, 0, 1);
        rig.setKey(0, 0, 0, 1, 's');
        rig.follow(0, 0, 0);
        Edge.is("where it was: x", 45.0 - 64.0, rig.place(0, true));
        Edge.is("where it was: y", 45.0, rig.place(0, false));
        rig.setKey(0, 0, 0, 5, 's');
        Edge.is("and it stays: x", 45.0 - 64.0, rig.place(0, true));
        Edge.is("and it stays: y", 45.0, rig.place(0, false));
    }

    private static void offsets() {
        Edge.holds("Markers", "When a weight of a marker becomes another one, its offset becomes, in x and y, where it "
            + "was at the present time, less where it would be then with the new weights and the offset 0.0.");
        MotionRig rig = turned(0);
        rig.addBone(-1, 10, 0);
        rig.addMarker();
        int[][] steps = {{0, 9}, {1, 1}, {0, 1}, {1, 0}, {1, 9}, {0, 0}, {1, 0}, {0, 5}};
        int[] weights = new int[2];
        double offset = 0.0;
        for (int i = 0; i < steps.length; i++) {
            rig.setKey(0, 0, 0, i * 3 % 8, 's');
            double was = offset + sum(rig, weights, true);
            Edge.is("ahead of the step " + i, was, rig.place(0, true));
            rig.follow(0, steps[i][0], steps[i][1]);
            weights[steps[i][0]] = steps[i][1];
            offset = was - sum(rig, weights, true);
            Edge.is("behind the step " + i, offset + sum(rig, weights, true), rig.place(0, true));
        }
        int runs = rig.runs();
        rig.setTime(5);
        rig.follow(0, 0, 5);
        Edge.is("the same weight asks for nothing", runs, rig.runs());
        Edge.is("and leaves it", offset + sum(rig, weights, true), rig.place(0, true));
        MotionRig still = turned(3);
        still.addMarker();
        still.follow(0, 0, 2);
        still.setKey(0, 0, 0, 0, 's');
        still.follow(0, 0, 2);
        Edge.is("the same weight is no other one", 64.0 + 45.0, still.place(0, true));
    }

    private static void followRefused() {
        Edge.holds("Promise 25", "Throws `IndexOutOfBoundsException` if there is no such marker or bone");
        Edge.refusedFor(House.NO_MARKER, Edge.INDEX, (rig, marker) -> rig.follow(marker, 0, 1));
        Edge.refusedFor(House.NO_BONE, Edge.INDEX, (rig, bone) -> rig.follow(0, bone, 1));
        Edge.refusedFor(House.NO_BONE, Edge.INDEX, (rig, bone) -> rig.follow(0, bone, 0));
        Edge.refused(BoneEdges::fullOfMarkers, "a fifth marker", Edge.INDEX, rig -> rig.follow(4, 0, 1));
        Edge.holds("Promise 25", "Throws `IllegalArgumentException` if the weight is out of range");
        Edge.refusedFor(Edge.beside(0, 9), Edge.ARGUMENT, (rig, weight) -> rig.follow(0, 0, weight));
        Edge.refusedFor(Edge.beside(0, 9), Edge.ARGUMENT, (rig, weight) -> rig.follow(1, 3, weight));
    }

    private static void placing() {
        Edge.holds("Promise 26", "`marker`: the number of the marker", "`isX`: whether x is asked, and not y",
            "Returns the number.");
        MotionRig rig = fullOfMarkers();
        rig.setKey(0, 0, 0, 2, 's');
        Edge.is("one that follows nothing", 0.0, rig.place(0, true));
        Edge.is("x of the last one", 0.0 - 45.0, rig.place(3, true));
        Edge.is("y of the last one", 64.0 - 45.0, rig.place(3, false));
        Edge.holds("Promise 26", "Throws `IndexOutOfBoundsException` if there is no such marker");
        Edge.refusedFor(House.NO_MARKER, Edge.INDEX, (r, marker) -> r.place(marker, true));
        Edge.refusedFor(House.NO_MARKER, Edge.INDEX, (r, marker) -> r.place(marker, false));
        Edge.refused(BoneEdges::fullOfMarkers, "a fifth marker", Edge.INDEX, r -> r.place(4, true));
        Edge.refused(MotionRig::new, "no marker at all", Edge.INDEX, r -> r.place(0, true));
    }
}
