/** Rigs on which calls are tried: one with something of everything, which a change anywhere would show, and others. */
final class House {
    /** Kinds of the channels of the furnished rig; the last of them is full on the layer 0. */
    static final String KINDS = "kkt+dpk";
    static final int CHANNELS = 7;
    static final int FULL = 6;
    static final int LAYERS = 3;
    static final int BONES = 4;
    static final int MARKERS = 2;
    /** Numbers that no channel, layer, bone or marker of the furnished rig has. */
    static final int[] NO_CHANNEL = {CHANNELS, -1, 15, 16, 31, 32, Edge.LEAST_INT, Edge.MOST_INT};
    static final int[] NO_LAYER = {LAYERS, -1, 4, Edge.LEAST_INT, Edge.MOST_INT};
    static final int[] NO_UPPER_LAYER = {0, LAYERS, -1, 4, Edge.LEAST_INT, Edge.MOST_INT};
    static final int[] NO_BONE = {BONES, -1, 7, 8, Edge.LEAST_INT, Edge.MOST_INT};
    static final int[] NO_MARKER = {MARKERS, -1, 3, 4, Edge.LEAST_INT, Edge.MOST_INT};

    private House() {
    }

    static MotionRig furnished() {
        MotionRig rig = new MotionRig();
        rig.addChannel('k', 0, 0, 0, 0);
        rig.addChannel('k', 0, 0, 0, 0);
        rig.addChannel('t', 0, 0, 0, 0);
        rig.addChannel('+', 0, 2, 0, 0);
        rig.addChannel('d', 3, 0, 4, 0);
        rig.addChannel('p', 0, 0, 3, 2);
        rig.addChannel('k', 0, 0, 0, 0);
        addCurves(rig);
        addBones(rig);
        rig.name(4, 'a');
        rig.override('a', -7);
        rig.override('b', 8);
        rig.name(0, 'n');
        addWishes(rig);
        rig.setKey(1, 0, 3, 11, 's');
        rig.undo();
        rig.setTime(6);
        rig.value(4);
        rig.value(5);
        rig.value(2);
        rig.tell(false, true);
        return rig;
    }

    private static void addCurves(MotionRig rig) {
        rig.addLayer('+');
        rig.addLayer('o');
        rig.setKey(0, 0, -4, 10, 'l');
        rig.setKey(0, 0, 0, -20, 'e');
        rig.setKey(0, 0, 6, 30, 's');
        rig.setKey(0, 1, 2, 7, 'l');
        rig.setKey(1, 0, 0, 3, 's');
        rig.bake(FULL, 0, 10, 29);
        rig.setKey(FULL, 0, 12, 5, 'e');
        rig.extend(0, 0, 'c', 'o');
        rig.weigh(1, 60);
        rig.mute(2, true);
        rig.leaveOut(2, 1, true);
    }

    private static void addBones(MotionRig rig) {
        rig.addBone(-1, 10, 2);
        rig.addBone(0, 20, 0);
        rig.addBone(1, 30, 1);
        rig.addBone(1, 5, FULL);
        rig.addMarker();
        rig.addMarker();
        rig.follow(0, 1, 3);
        rig.follow(0, 2, 5);
        rig.follow(1, 3, 9);
    }

    /** A conflict of an earlier merge, and a branch with two wishes. */
    private static void addWishes(MotionRig rig) {
        rig.branch();
        rig.wish(1, 0, 0, 4, 's');
        rig.setKey(1, 0, 0, 9, 'l');
        rig.merge();
        rig.branch();
        rig.wish(0, 0, 50, 1, 'e');
        rig.wish(0, 0, 0, 1, 'x');
    }

    static MotionRig small() {
        MotionRig rig = new MotionRig();
        rig.addChannel('k', 0, 0, 0, 0);
        rig.addChannel('a', 0, 0, 0, 0);
        rig.setKey(0, 0, 1, -5, 'l');
        rig.extend(0, 0, 'c', 'o');
        rig.name(0, 'n');
        rig.branch();
        rig.value(0);
        return rig;
    }

    /** A rig whose channels have these kinds and the channel before them as their inputs. */
    static MotionRig row(String kinds) {
        MotionRig rig = new MotionRig();
        for (int i = 0; i < kinds.length(); i++) {
            rig.addChannel(kinds.charAt(i), i - 1, i - 1, 1, 1);
        }
        return rig;
    }

    /** A channel with one value at all times. */
    static int constant(MotionRig rig, int value) {
        int c = rig.addChannel('k', 0, 0, 0, 0);
        rig.setKey(c, 0, 0, value, 's');
        return c;
    }

    /** A rig with one curve, of these frames and values, and of keys of one kind. */
    static MotionRig curve(char kind, int... pairs) {
        MotionRig rig = new MotionRig();
        rig.addChannel('k', 0, 0, 0, 0);
        for (int i = 0; i < pairs.length; i += 2) {
            rig.setKey(0, 0, pairs[i], pairs[i + 1], kind);
        }
        return rig;
    }
}
