/** The paragraph 'Reaching' of the document, and promise 27. */
final class ReachEdges {
    private static final int[] X = {64, 45, 0, -45, -64, -45, 0, 45};
    private static final int[] Y = {0, 45, 64, 45, 0, -45, -64, -45};

    private ReachEdges() {
    }

    static void run() {
        allPlaces();
        ties();
        whatTurns();
        frames();
        keysOfSteps();
        places();
        refused();
        full();
        order();
    }

    /** A bone 0, an arm 1 and a hand 2, turned by the channels 0 to 2; the second one has this kind. */
    private static MotionRig limb(char kind, int... lengths) {
        MotionRig rig = new MotionRig();
        rig.addChannel('k', 0, 0, 0, 0);
        rig.addChannel(kind, 0, 0, 1, 1);
        rig.addChannel('k', 0, 0, 0, 0);
        for (int i = 0; i < 3; i++) {
            rig.addBone(i - 1, lengths[i], i);
        }
        return rig;
    }

    private static void allPlaces() {
        Edge.holds("Reaching", "A bone with a parent reaches for a place: of all turns of the parent and then of "
            + "itself, 0 to 7 each, those two are taken with which the square of the distance of its tip to this place "
            + "is the least, by (x - a) * (x - a) + (y - b) * (y - b) with a and b as the tip");
        for (int turn = 0; turn < 8; turn++) {
            for (int best = 0; best < 64; best += 3) {
                MotionRig rig = limb('k', 64, 64, 32);
                rig.setKey(0, 0, 0, turn, 's');
                int arm = (turn + best / 8) % 8;
                int hand = (arm + best % 8) % 8;
                int x = (int) Math.rint(X[turn] + X[arm] + X[hand] / 2.0);
                int y = (int) Math.rint(Y[turn] + Y[arm] + Y[hand] / 2.0);
                Edge.is("for the place of " + best + " on " + turn, best, rig.reach(2, x, y));
                Edge.is("there it is: x", X[turn] + X[arm] + X[hand] / 2.0, rig.tip(2, true));
                Edge.is("there it is: y", Y[turn] + Y[arm] + Y[hand] / 2.0, rig.tip(2, false));
            }
        }
    }

    private static void ties() {
        Edge.holds("Reaching", "of several, the lesser turn of the parent, and then of itself.");
        MotionRig rig = limb('k', 1, 50, 50);
        rig.addBone(-1, 50, 1);
        rig.addBone(3, 50, 2);
        Edge.is("all turns of the parent with the turn 4", 4, rig.reach(4, 0, 0));
        Edge.is("the turns 1 and 7 of the parent", 8 + 6, rig.reach(4, 71, 0));
        Edge.is("the turns 0 and 2 of the parent", 2, rig.reach(4, 50, 50));
        Edge.is("straight on", 0, rig.reach(4, 100, 0));
        MotionRig longer = House.row("kk");
        longer.addBone(-1, 100, 0);
        longer.addBone(0, 1, 1);
        Edge.is("the turns 1, 3, 5 and 7 of the parent, which are nearer", 8 + 4, longer.reach(1, 0, 0));
    }

    private static void whatTurns() {
        Edge.holds("Reaching", "Both channels, which are of the kind 'k', different ones, and turn no other bone from "
            + "which this one comes");
        for (char kind : "t+-*%xnasrfcdp".toCharArray()) {
            Edge.refused(() -> limb(kind, 1, 2, 3), "the arm is turned by " + kind, Edge.UNSUPPORTED,
                rig -> rig.reach(2, 0, 0));
            Edge.refused(() -> limb(kind, 1, 2, 3), "the hand is turned by " + kind, Edge.UNSUPPORTED,
                rig -> rig.reach(1, 0, 0));
        }
        Edge.is("the first one may be of any kind", 0, chain(2, 0, 1).reach(2, 1000, 0));
        Edge.refused(() -> chain(0, 1, 1), "one channel for both", Edge.UNSUPPORTED, rig -> rig.reach(2, 0, 0));
        Edge.refused(() -> chain(0, 0, 1), "the arm's turns what is ahead, too", Edge.UNSUPPORTED,
            rig -> rig.reach(2, 0, 0));
        Edge.refused(() -> chain(1, 0, 1), "the hand's turns what is ahead, too", Edge.UNSUPPORTED,
            rig -> rig.reach(2, 0, 0));
        Edge.refused(() -> chain(1, 2, 2, 2, 2, 2, 0, 1), "the hand's turns the first one of eight", Edge.UNSUPPORTED,
            rig -> rig.reach(7, 0, 0));
        Edge.refused(() -> chain(0, 2, 2, 2, 2, 2, 0, 1), "the arm's turns the first one of eight", Edge.UNSUPPORTED,
            rig -> rig.reach(7, 0, 0));
        Edge.is("neither turns one ahead", 0, chain(2, 2, 2, 2, 2, 2, 0, 1).reach(7, 1000, 0));
        MotionRig beside = chain(2, 0, 1);
        beside.addBone(0, 1, 0);
        beside.addBone(2, 1, 1);
        beside.addBone(-1, 1, 1);
        Edge.is("bones from which it does not come count not", 0, beside.reach(2, 1000, 0));
        Edge.is("the arm itself, with what is ahead of it", 0, chain(0, 1, 2).reach(1, 1000, 0));
    }

    /** Bones one on the other, each of the length 1, turned by these of the channels 0 and 1, curves, and 2, time. */
    private static MotionRig chain(int... turners) {
        MotionRig rig = House.row("kkt");
        for (int i = 0; i < turners.length; i++) {
            rig.addBone(i - 1, 1, turners[i]);
        }
        return rig;
    }

    private static void frames() {
        Edge.holds("Reaching", "at the frame that Math.floor gives of the present time.");
        int[][] rows = {{-400, -100}, {-399, -100}, {-397, -100}, {-396, -99}, {-5, -2}, {-4, -1}, {-1, -1}, {0, 0},
            {1, 0}, {3, 0}, {4, 1}, {396, 99}, {399, 99}, {400, 100}};
        for (int[] row : rows) {
            MotionRig rig = limb('k', 1, 2, 3);
            rig.setTime(row[0]);
            rig.reach(2, 0, 5);
            Edge.is("of the arm at " + row[0], row[1], rig.keyAt(1, 0, 0));
            Edge.is("of the hand at " + row[0], row[1], rig.keyAt(2, 0, 0));
        }
    }

    private static void keysOfSteps() {
        Edge.holds("Reaching", "get keys of the kind 's' on the layer 0, with these turns");
        MotionRig rig = limb('k', 1, 2, 3);
        rig.addLayer('+');
        rig.setKey(1, 0, 0, 500, 'l');
        rig.setKey(1, 0, 1, 999, 'l');
        rig.setKey(2, 0, 1, 999, 'e');
        rig.setTime(3);
        Edge.is("both turns", 8 * 2 + 0, rig.reach(2, 0, 1000));
        Edge.is("in place of one", 2, rig.keys(1, 0));
        Edge.is("a new one", 2, rig.keys(2, 0));
        Edge.is("the turn of the arm", 2.0, rig.value(1));
        Edge.is("the turn of the hand", 0.0, rig.value(2));
        Edge.is("nothing on the layer 1", 0, rig.keys(1, 1) + rig.keys(2, 1));
        Edge.is("one edit", true, rig.undo());
        Edge.is("for both", 500 + 1, rig.keyValue(1, 0, 0) + rig.keys(2, 0));
    }

    private static void places() {
        Edge.holds("Promise 27", "`bone`: the number of the bone", "`x`: x, -1000 to 1000", "`y`: y, -1000 to 1000",
            "Returns 8 times the turn of the parent plus its own turn.");
        int[][] rows = {{1000, 0, 0}, {1000, 1000, 8}, {0, 1000, 16}, {-1000, 1000, 24}, {-1000, 0, 32},
            {-1000, -1000, 40}, {0, -1000, 48}, {1000, -1000, 56}, {999, 0, 0}, {-999, 0, 32}, {0, 999, 16},
            {0, -999, 48}};
        for (int[] row : rows) {
            MotionRig rig = limb('k', 1, 50, 50);
            Edge.is("for " + row[0] + " " + row[1], row[2], rig.reach(2, row[0], row[1]));
            Edge.is("the turn of the parent", row[2] / 8, rig.keyValue(1, 0, 0));
            Edge.is("its own", row[2] % 8, rig.keyValue(2, 0, 0));
        }
        MotionRig most = limb('k', 1, 50, 50);
        most.setKey(0, 0, 0, 4, 's');
        Edge.is("back from what is turned round", 8 * 4, most.reach(2, 1000, 0));
        Edge.is("7 and 7", 8 * 7 + 7, reachedBy(limb('k', 2, 10, 11), 7, 7));
        Edge.is("7 and 7 by one length is 6 and 1", 8 * 6 + 1, reachedBy(limb('k', 2, 10, 10), 7, 7));
        Edge.is("0 and 7", 7, reachedBy(limb('k', 2, 10, 11), 0, 7));
        Edge.is("7 and 0", 8 * 7, reachedBy(limb('k', 2, 10, 11), 7, 0));
    }

    /** Where the hand is with these turns, by whole numbers, is what it reaches for. */
    private static int reachedBy(MotionRig rig, int arm, int hand) {
        rig.setKey(1, 0, 9, arm, 's');
        rig.setKey(2, 0, 9, hand, 's');
        int x = (int) Math.rint(rig.tip(2, true));
        int y = (int) Math.rint(rig.tip(2, false));
        return rig.reach(2, x, y);
    }

    private static void refused() {
        Edge.holds("Promise 27", "Throws `IndexOutOfBoundsException` if there is no such bone");
        Edge.refusedFor(House.NO_BONE, Edge.INDEX, (rig, bone) -> rig.reach(bone, 0, 0));
        Edge.refused(MotionRig::new, "no bone at all", Edge.INDEX, rig -> rig.reach(0, 0, 0));
        Edge.holds("Promise 27", "Throws `IllegalArgumentException` if the place is out of range");
        Edge.refusedFor(Edge.beside(-1000, 1000), Edge.ARGUMENT, (rig, x) -> rig.reach(2, x, 0));
        Edge.refusedFor(Edge.beside(-1000, 1000), Edge.ARGUMENT, (rig, y) -> rig.reach(2, 0, y));
        Edge.holds("Promise 27", "Throws `UnsupportedOperationException` if it has no parent, or the channels are not "
            + "as told above");
        Edge.refused("no parent", Edge.UNSUPPORTED, rig -> rig.reach(0, 0, 0));
        Edge.refused("the parent is turned by the time", Edge.UNSUPPORTED, rig -> rig.reach(1, 0, 0));
        Edge.refused(() -> chain(0, 0), "one channel for both", Edge.UNSUPPORTED, rig -> rig.reach(1, 0, 0));
        Edge.is("both are as told", 8 * 6, House.furnished().reach(2, 1000, 0));
    }

    /** The arm has its channel full of keys, or the hand, or both. */
    private static MotionRig fullLimb(boolean isArm, boolean isHand) {
        MotionRig rig = limb('k', 1, 2, 3);
        if (isArm) {
            rig.bake(1, 0, 1, 20);
        }
        if (isHand) {
            rig.bake(2, 0, 1, 20);
        }
        return rig;
    }

    private static void full() {
        Edge.holds("Promise 27", "Throws `IllegalStateException` if one of the keys would be the 21st of its curve");
        Edge.refused(() -> fullLimb(true, false), "of the arm", Edge.STATE, rig -> rig.reach(2, 0, 0));
        Edge.refused(() -> fullLimb(false, true), "of the hand", Edge.STATE, rig -> rig.reach(2, 0, 0));
        Edge.refused(() -> fullLimb(true, true), "of both", Edge.STATE, rig -> rig.reach(2, 0, 0));
        Edge.refused("of the hand, behind another one", Edge.STATE, rig -> rig.reach(3, 0, 0));
        MotionRig within = fullLimb(true, true);
        within.setTime(4);
        Edge.is("in place of one of 20", 8 * 2, within.reach(2, 0, 1000));
        Edge.is("still 20", 20, within.keys(2, 0));
        MotionRig last = fullLimb(true, true);
        last.removeKey(1, 0, 9);
        last.removeKey(2, 0, 19);
        Edge.is("the 20th of both", 0, last.reach(2, 1000, 0));
        Edge.is("20", 20, last.keys(1, 0));
        last.setTime(4 * 19);
        Edge.is("not the 21st of one of them", "throws IllegalStateException", () -> last.reach(2, 0, 0));
    }

    private static void order() {
        Edge.holds("Exceptions", "If several exceptions apply, the one that is documented first is thrown.");
        Edge.refused("reach: no bone, no place", Edge.INDEX, rig -> rig.reach(4, 1001, 0));
        Edge.refused("reach: no bone, no place", Edge.INDEX, rig -> rig.reach(-1, 0, -1001));
        Edge.refused("reach: no place, no parent", Edge.ARGUMENT, rig -> rig.reach(0, 1001, 0));
        Edge.refused("reach: no place, no curve", Edge.ARGUMENT, rig -> rig.reach(1, 0, -1001));
        Edge.refused("reach: no place, full", Edge.ARGUMENT, rig -> rig.reach(3, -1001, 0));
        Edge.refused(ReachEdges::fullTurner, "reach: one channel, full", Edge.UNSUPPORTED, rig -> rig.reach(1, 0, 0));
        Edge.refused(ReachEdges::fullTurner, "reach: no curve, full", Edge.UNSUPPORTED, rig -> rig.reach(2, 0, 0));
    }

    /** Two bones of one channel that is full, and one on them that is turned by the time. */
    private static MotionRig fullTurner() {
        MotionRig rig = chain(0, 0, 2);
        rig.bake(0, 0, 1, 20);
        return rig;
    }
}
