/** Promises 21 to 27: bones, markers and reaching. */
public final class BonesTest {
    private static final int[] X = {64, 45, 0, -45, -64, -45, 0, 45};
    private static final int[] Y = {0, 45, 64, 45, 0, -45, -64, -45};

    private BonesTest() {
    }

    public static void main(String[] args) {
        adding();
        directions();
        tips();
        asking();
        addingMarkers();
        following();
        followingWrong();
        staying();
        reaching();
        reachingWithin();
        reachingRoom();
        reachingAsks();
        reachingWrong();
        Check.end("BonesTest");
    }

    private static void adding() {
        MotionRig rig = new MotionRig();
        Check.fails("no channel yet", IndexOutOfBoundsException.class, () -> rig.addBone(-1, 1, 0));
        rig.addChannel('k', 0, 0, 0, 0);
        Check.fails("no parent yet", IndexOutOfBoundsException.class, () -> rig.addBone(0, 1, 0));
        Check.is("the first one", 0, rig.addBone(-1, 1, 0));
        Check.is("the longest one", 1, rig.addBone(0, 100, 0));
        for (int bad : new int[] {2, -2, 8, Integer.MAX_VALUE, Integer.MIN_VALUE}) {
            Check.fails("parent " + bad, IndexOutOfBoundsException.class, () -> rig.addBone(bad, 0, 0));
            Check.fails("channel " + bad, IndexOutOfBoundsException.class, () -> rig.addBone(0, 101, bad));
            Check.fails("direction " + bad, IndexOutOfBoundsException.class, () -> rig.direction(bad));
            Check.fails("tip " + bad, IndexOutOfBoundsException.class, () -> rig.tip(bad, true));
        }
        Check.fails("channel -1", IndexOutOfBoundsException.class, () -> rig.addBone(0, 1, -1));
        Check.fails("direction -1", IndexOutOfBoundsException.class, () -> rig.direction(-1));
        Check.fails("tip -1", IndexOutOfBoundsException.class, () -> rig.tip(-1, false));
        for (int bad : new int[] {0, 101, -1, Integer.MAX_VALUE, Integer.MIN_VALUE}) {
            Check.fails("length " + bad, IllegalArgumentException.class, () -> rig.addBone(1, bad, 0));
        }
        for (int i = 2; i < 8; i++) {
            Check.is("one more", i, rig.addBone(i - 1, 1, 0));
        }
        Check.fails("the ninth", IllegalStateException.class, () -> rig.addBone(-1, 1, 0));
        Check.fails("length ahead of the ninth", IllegalArgumentException.class, () -> rig.addBone(-1, 0, 0));
        Check.fails("parent ahead of the ninth", IndexOutOfBoundsException.class, () -> rig.addBone(8, 1, 0));
    }

    private static void directions() {
        MotionRig rig = new MotionRig();
        int t = rig.addChannel('t', 0, 0, 0, 0);
        int k = ChannelsTest.constant(rig, -3);
        int bone = rig.addBone(-1, 10, t);
        int next = rig.addBone(bone, 10, k);
        int last = rig.addBone(next, 10, t);
        for (int at = -400; at <= 400; at += 7) {
            rig.setTime(at);
            int turn = (int) Math.rint(at / 4.0);
            Check.is("its turn at " + at, Math.floorMod(turn, 8), rig.direction(bone));
            Check.is("and its parent's at " + at, Math.floorMod(turn - 3, 8), rig.direction(next));
            Check.is("and all at " + at, Math.floorMod(2 * turn - 3, 8), rig.direction(last));
        }
        int thousand = ChannelsTest.constant(rig, 999);
        int cube = rig.addChannel('*', thousand, rig.addChannel('*', thousand, thousand, 0, 0), 0, 0);
        Check.is("of a great value", 997002999 % 8, rig.direction(rig.addBone(-1, 1, cube)));
    }

    private static void tips() {
        for (int turn = 0; turn < 8; turn++) {
            for (int more = 0; more < 8; more++) {
                MotionRig rig = new MotionRig();
                int a = rig.addBone(-1, 7, ChannelsTest.constant(rig, turn));
                int b = rig.addBone(a, 100, ChannelsTest.constant(rig, more - 8));
                double x = 7.0 * X[turn] / 64.0;
                double y = 7.0 * Y[turn] / 64.0;
                Check.is("x", x + 0.0, rig.tip(a, true));
                Check.is("y", y + 0.0, rig.tip(a, false));
                int sum = (turn + more) % 8;
                Check.is("x of the next", x + 100.0 * X[sum] / 64.0 + 0.0, rig.tip(b, true));
                Check.is("y of the next", y + 100.0 * Y[sum] / 64.0 + 0.0, rig.tip(b, false));
            }
        }
    }

    private static void asking() {
        MotionRig rig = new MotionRig();
        int t = rig.addChannel('t', 0, 0, 0, 0);
        int late = rig.addChannel('d', t, 0, 4, 0);
        int half = rig.addChannel('+', t, late, 0, 0);
        int a = rig.addBone(-1, 7, half);
        int b = rig.addBone(a, 7, late);
        Check.is("the one without a parent", 7, rig.direction(a));
        Check.is("asks for its channel and the inputs", 3, rig.runs());
        rig.tip(b, true);
        Check.is("nothing is dirty", 3, rig.runs());
        rig.setTime(8);
        rig.tip(b, false);
        Check.is("all from which it comes", 6, rig.runs());
        rig.setTime(12);
        rig.direction(b);
        Check.is("for its direction, too", 9, rig.runs());
        Check.is("as value() does", true, rig.isClean(t) && rig.isClean(late) && rig.isClean(half));
    }

    private static void addingMarkers() {
        MotionRig rig = new MotionRig();
        for (int i = 0; i < 4; i++) {
            Check.is("one more", i, rig.addMarker());
            Check.is("at 0.0 at first", 0.0, rig.place(i, true));
            Check.is("at 0.0 at first", 0.0, rig.place(i, false));
        }
        Check.fails("the fifth", IllegalStateException.class, () -> rig.addMarker());
        for (int bad : new int[] {4, -1, Integer.MAX_VALUE, Integer.MIN_VALUE}) {
            Check.fails("place of " + bad, IndexOutOfBoundsException.class, () -> rig.place(bad, false));
        }
    }

    /** Bones 0 to 2, all without a parent, turned by the channels 0 to 2, and one marker. */
    private static MotionRig threeBones() {
        MotionRig rig = new MotionRig();
        for (int i = 0; i < 3; i++) {
            rig.addBone(-1, 10 + i, rig.addChannel('k', 0, 0, 0, 0));
        }
        rig.addMarker();
        return rig;
    }

    private static void following() {
        MotionRig rig = threeBones();
        Check.is("the weight before", 0, rig.follow(0, 0, 3));
        Check.is("it asks for this bone", 1, rig.runs());
        Check.is("it stays", 0.0, rig.place(0, true));
        Check.is("the weight before", 0, rig.follow(0, 2, 5));
        Check.is("it stays", 0.0, rig.place(0, true));
        Check.is("bones of the weight 0 are not asked", false, rig.isClean(1));
        Check.is("the weight before", 5, rig.follow(0, 2, 5));
        Check.is("the weight before", 3, rig.follow(0, 0, 9));
        rig.setKey(0, 0, 0, 2, 's');
        double sum = 0.0 + 0.0 * 9.0 / 14.0 + 12.0 * 5.0 / 14.0;
        double first = 10.0 * 3.0 / 3.0;
        double second = 0.0 + 10.0 * 3.0 / 8.0 + 12.0 * 5.0 / 8.0;
        double third = 0.0 + 10.0 * 9.0 / 14.0 + 12.0 * 5.0 / 14.0;
        double offset = 0.0 - first;
        offset = offset + first - second;
        offset = offset + second - third;
        Check.is("x by the weights", offset + sum, rig.place(0, true));
        Check.is("y by the weights", 10.0 * 9.0 / 14.0, rig.place(0, false));
        MotionRig same = threeBones();
        same.follow(0, 1, 0);
        Check.is("the same weight asks for nothing", 0, same.runs());
        same.follow(0, 1, 2);
        same.setTime(1);
        same.follow(0, 1, 2);
        Check.is("the same weight asks for nothing", 1, same.runs());
        same.follow(0, 0, 1);
        Check.is("another one asks for old and new bones", 3, same.runs());
    }

    private static void followingWrong() {
        MotionRig rig = threeBones();
        for (int bad : new int[] {-1, 3, 8, Integer.MAX_VALUE, Integer.MIN_VALUE}) {
            Check.fails("marker " + bad, IndexOutOfBoundsException.class, () -> rig.follow(bad, 0, 10));
            Check.fails("bone " + bad, IndexOutOfBoundsException.class, () -> rig.follow(0, bad, -1));
        }
        Check.fails("marker 1", IndexOutOfBoundsException.class, () -> rig.follow(1, 0, 1));
        for (int bad : new int[] {-1, 10, Integer.MAX_VALUE, Integer.MIN_VALUE}) {
            Check.fails("weight " + bad, IllegalArgumentException.class, () -> rig.follow(0, 0, bad));
        }
        Check.is("nothing has changed", 0, rig.follow(0, 0, 9));
    }

    private static void staying() {
        MotionRig rig = threeBones();
        rig.follow(0, 0, 1);
        rig.setKey(0, 0, 0, 1, 's');
        double x = rig.place(0, true);
        double y = rig.place(0, false);
        Check.is("it has moved", true, x != 0.0 && y != 0.0);
        Check.is("to no weight at all", 1, rig.follow(0, 0, 0));
        Check.is("x stays", x, rig.place(0, true));
        Check.is("y stays", y, rig.place(0, false));
        rig.setKey(0, 0, 0, 5, 's');
        Check.is("it follows no more", x, rig.place(0, true));
        int runs = rig.runs();
        rig.setTime(9);
        Check.is("it follows no more", y, rig.place(0, false));
        Check.is("and asks for nothing", runs, rig.runs());
        twoMarkers();
        MotionRig late = threeBones();
        int t = late.addChannel('t', 0, 0, 0, 0);
        int bone = late.addBone(-1, 64, t);
        late.setTime(8);
        late.follow(0, bone, 4);
        late.setTime(16);
        Check.is("by where it was at the present time", -64.0, late.place(0, true));
        Check.is("by where it was at the present time", -64.0, late.place(0, false));
    }

    private static void twoMarkers() {
        MotionRig rig = threeBones();
        rig.addMarker();
        rig.follow(0, 0, 1);
        rig.setKey(0, 0, 0, 4, 's');
        rig.follow(1, 1, 1);
        Check.is("where it was, and not another one", 1, rig.follow(0, 0, 2));
        Check.is("the first one", -20.0, rig.place(0, true));
        Check.is("the second one", 0.0, rig.place(1, true));
        rig.setKey(1, 0, 0, 4, 's');
        Check.is("where it is now, and not when it was asked last", 1, rig.follow(1, 1, 3));
        Check.is("the second one", -22.0, rig.place(1, true));
        Check.is("the first one", -20.0, rig.place(0, true));
    }

    private static int limb(MotionRig rig, int length, int more) {
        int a = rig.addBone(-1, length, rig.addChannel('k', 0, 0, 0, 0));
        return rig.addBone(a, more, rig.addChannel('k', 0, 0, 0, 0));
    }

    private static int best(double[] begin, int turn, int length, int more, int x, int y) {
        int best = 0;
        double least = Double.POSITIVE_INFINITY;
        for (int p = 0; p < 8; p++) {
            for (int o = 0; o < 8; o++) {
                int d = (turn + p) % 8;
                int e = (d + o) % 8;
                double a = begin[0] + length * X[d] / 64.0 + more * X[e] / 64.0;
                double b = begin[1] + length * Y[d] / 64.0 + more * Y[e] / 64.0;
                double square = (x - a) * (x - a) + (y - b) * (y - b);
                if (square < least) {
                    least = square;
                    best = 8 * p + o;
                }
            }
        }
        return best;
    }

    private static void reaching() {
        for (int x = -150; x <= 150; x += 50) {
            for (int y = -150; y <= 150; y += 50) {
                MotionRig rig = new MotionRig();
                int hand = limb(rig, 64, 40);
                int due = best(new double[2], 0, 64, 40, x, y);
                Check.is("turns for " + x + " " + y, due, rig.reach(hand, x, y));
                Check.is("the turn of the parent", due / 8, rig.keyValue(0, 0, 0));
                Check.is("its own", due % 8, rig.keyValue(1, 0, 0));
                Check.is("its direction", (due / 8 + due % 8) % 8, rig.direction(hand));
            }
        }
        MotionRig rig = new MotionRig();
        int hand = limb(rig, 50, 50);
        Check.is("of several, the lesser turn of the parent", 4, rig.reach(hand, 0, 0));
        Check.is("the furthest place", 8 + 0, rig.reach(hand, 1000, 1000));
        Check.is("the furthest place", 8 * 5 + 0, rig.reach(hand, -1000, -1000));
        rig.setTime(-3);
        rig.reach(hand, 100, 0);
        Check.is("at the floor of the present time", -1, rig.keyAt(0, 0, 0));
        Check.is("in place of none", 2, rig.keys(1, 0));
        rig.setTime(7);
        rig.reach(hand, 0, -100);
        Check.is("at the floor of the present time", 1, rig.keyAt(1, 0, 2));
        rig.setKey(0, 0, 2, 0, 'l');
        Check.is("keys are steps", 6.0, rig.valueAt(0, 7));
        Check.is("its tip is there", -100.0, rig.tip(hand, false));
        Check.is("one edit", true, rig.undo() && rig.undo());
        Check.is("with both keys", 2, rig.keys(0, 0));
        Check.is("with both keys", 2, rig.keys(1, 0));
        rig.setTime(0);
        rig.value(0);
        rig.value(1);
        rig.reach(hand, -1000, -1000);
        Check.is("the same keys make nothing dirty", true, rig.isClean(0) && rig.isClean(1));
        Check.is("and are no edit: it can be done again", true, rig.redo());
    }

    private static void reachingWithin() {
        MotionRig rig = new MotionRig();
        int t = rig.addChannel('t', 0, 0, 0, 0);
        int shoulder = rig.addBone(-1, 30, t);
        int first = rig.addBone(shoulder, 20, ChannelsTest.constant(rig, 1));
        int arm = rig.addBone(first, 33, rig.addChannel('k', 0, 0, 0, 0));
        int hand = rig.addBone(arm, 17, rig.addChannel('k', 0, 0, 0, 0));
        for (int at = 0; at < 60; at += 7) {
            rig.setTime(at);
            double[] begin = {rig.tip(first, true), rig.tip(first, false)};
            int due = best(begin, rig.direction(first), 33, 17, at - 20, 40 - at);
            Check.is("from its grandparent at " + at, due, rig.reach(hand, at - 20, 40 - at));
        }
    }

    private static void reachingRoom() {
        MotionRig rig = new MotionRig();
        int hand = limb(rig, 10, 10);
        rig.addLayer('o');
        for (int i = 1; i <= 20; i++) {
            rig.setKey(1, 0, i, 0, 's');
        }
        Check.fails("the 21st key of its own", IllegalStateException.class, () -> rig.reach(hand, 1, 1));
        Check.is("none of the other one, either", 0, rig.keys(0, 0));
        rig.setTime(4);
        Check.is("in place of one", 8 * 2, rig.reach(hand, 0, 20));
        Check.is("still 20", 20, rig.keys(1, 0));
        for (int i = 2; i <= 20; i++) {
            rig.setKey(0, 0, i, 0, 's');
        }
        rig.removeKey(1, 0, 20);
        rig.setTime(0);
        Check.fails("the 21st key of its parent", IllegalStateException.class, () -> rig.reach(hand, 1, 1));
        Check.fails("place ahead of it", IllegalArgumentException.class, () -> rig.reach(hand, 1001, 1));
        rig.setTime(80);
        Check.is("another frame of both", 16, rig.reach(hand, 0, 20));
        Check.is("on the layer 0", 0, rig.keys(0, 1));
    }

    private static void reachingAsks() {
        MotionRig rig = new MotionRig();
        int t = rig.addChannel('t', 0, 0, 0, 0);
        int k = rig.addChannel('k', 0, 0, 0, 0);
        int m = rig.addChannel('k', 0, 0, 0, 0);
        int sum = rig.addChannel('+', k, m, 0, 0);
        int root = rig.addBone(-1, 10, sum);
        int middle = rig.addBone(root, 10, t);
        int arm = rig.addBone(middle, 10, k);
        int hand = rig.addBone(arm, 10, m);
        rig.setTime(0);
        rig.reach(hand, 100, 100);
        Check.is("those from which its parent comes", 4, rig.runs());
        Check.is("stay clean", true, rig.isClean(t));
        Check.is("but for what the keys make dirty", false, rig.isClean(sum));
        MotionRig bare = new MotionRig();
        int end = limb(bare, 10, 10);
        bare.reach(end, 5, 5);
        Check.is("a parent without a parent asks for nothing", 0, bare.runs());
    }

    private static void reachingWrong() {
        MotionRig rig = new MotionRig();
        int k = rig.addChannel('k', 0, 0, 0, 0);
        int m = rig.addChannel('k', 0, 0, 0, 0);
        int t = rig.addChannel('t', 0, 0, 0, 0);
        int n = rig.addChannel('k', 0, 0, 0, 0);
        int root = rig.addBone(-1, 10, k);
        int next = rig.addBone(root, 10, m);
        int same = rig.addBone(next, 10, m);
        int timed = rig.addBone(root, 10, t);
        int beyond = rig.addBone(timed, 10, m);
        int again = rig.addBone(next, 10, k);
        int third = rig.addBone(next, 10, n);
        int fourth = rig.addBone(third, 10, k);
        for (int bad : new int[] {8, -1, Integer.MAX_VALUE, Integer.MIN_VALUE}) {
            Check.fails("bone " + bad, IndexOutOfBoundsException.class, () -> rig.reach(bad, 1001, 0));
        }
        for (int bad : new int[] {1001, -1001, Integer.MAX_VALUE, Integer.MIN_VALUE}) {
            Check.fails("x " + bad, IllegalArgumentException.class, () -> rig.reach(next, bad, 0));
            Check.fails("y " + bad, IllegalArgumentException.class, () -> rig.reach(next, 0, bad));
            Check.fails("place ahead of parent", IllegalArgumentException.class, () -> rig.reach(root, 0, bad));
        }
        Check.fails("no parent", UnsupportedOperationException.class, () -> rig.reach(root, 0, 0));
        Check.fails("one channel for both", UnsupportedOperationException.class, () -> rig.reach(same, 0, 0));
        Check.fails("its own of the time", UnsupportedOperationException.class, () -> rig.reach(timed, 0, 0));
        Check.fails("its parent's of the time", UnsupportedOperationException.class, () -> rig.reach(beyond, 0, 0));
        Check.fails("its own turns another one", UnsupportedOperationException.class, () -> rig.reach(again, 0, 0));
        Check.fails("its own turns a far one", UnsupportedOperationException.class, () -> rig.reach(fourth, 0, 0));
        rig.rejoin(rig.addChannel('a', k, 0, 0, 0), 0, m);
        Check.is("what is not above may be turned", true, rig.reach(third, 20, 20) >= 0);
        MotionRig other = new MotionRig();
        int a = other.addChannel('k', 0, 0, 0, 0);
        int b = other.addChannel('k', 0, 0, 0, 0);
        int top = other.addBone(-1, 10, a);
        int mid = other.addBone(top, 10, a);
        int low = other.addBone(mid, 10, b);
        Check.fails("its parent's turns another one", UnsupportedOperationException.class,
            () -> other.reach(low, 0, 0));
        for (int i = 1; i <= 20; i++) {
            other.setKey(a, 0, i, 0, 's');
        }
        Check.fails("channels ahead of the 21st key", UnsupportedOperationException.class,
            () -> other.reach(low, 0, 0));
        Check.is("nothing has changed", 0, other.keys(b, 0));
        Check.is("and nothing was asked", 0, other.runs());
    }
}
