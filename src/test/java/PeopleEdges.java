import java.util.NoSuchElementException;

/** The paragraph 'Two people' of the document, and promises 36 to 40. */
final class PeopleEdges {
    private PeopleEdges() {
    }

    static void run() {
        keeping();
        lastWish();
        takenOrNot();
        inOrder();
        conflictOfTheFull();
        over();
        branching();
        wishing();
        fortyWishes();
        wishingRefused();
        wishingOrder();
        merging();
        counting();
        codes();
    }

    /** A branch on a rig with the keys 0, 10 and 20 of the channel 0, each of the value 5 and a step. */
    private static MotionRig begun() {
        MotionRig rig = House.curve('s', 0, 5, 10, 5, 20, 5);
        rig.addChannel('k', 0, 0, 0, 0);
        rig.addChannel('t', 0, 0, 0, 0);
        rig.addLayer('+');
        rig.branch();
        return rig;
    }

    private static void keeping() {
        Edge.holds("Two people", "A branch keeps what all keys are when it is begun.");
        MotionRig rig = begun();
        rig.setKey(0, 0, 0, 6, 's');
        rig.setKey(0, 0, 10, 6, 's');
        rig.setKey(0, 0, 10, 5, 's');
        rig.removeKey(0, 0, 20);
        rig.undo();
        rig.wish(0, 0, 0, 7, 's');
        rig.wish(0, 0, 10, 7, 's');
        rig.wish(0, 0, 20, 7, 's');
        Edge.is("two are what they were then", 2, rig.merge());
        Edge.is("one is not", 100, rig.conflictAt(0));
        MotionRig later = begun();
        later.wish(0, 0, 0, 7, 's');
        later.merge();
        later.setKey(0, 0, 10, 6, 's');
        later.branch();
        later.wish(0, 0, 10, 7, 's');
        Edge.is("another branch keeps what they are later", 1, later.merge());
    }

    private static void lastWish() {
        Edge.holds("Two people", "The wishes of another person are told for keys: a key with a value and a kind, or "
            + "none there; of several for one key, the last one counts.");
        MotionRig rig = begun();
        rig.wish(0, 0, 0, 1, 's');
        rig.wish(0, 0, 0, 1, 'x');
        rig.wish(0, 0, 10, 1, 'x');
        rig.wish(0, 0, 10, 1000, 'l');
        rig.wish(0, 0, 20, 1, 'l');
        rig.wish(0, 0, 20, 5, 's');
        Edge.is("three keys", 3, rig.merge());
        Edge.is("none there", 10, rig.keyAt(0, 0, 0));
        Edge.is("the last value", 1000, rig.keyValue(0, 0, 0));
        Edge.is("and kind", 1000.0 + -995.0 * 0.5, rig.valueAt(0, 60));
        Edge.is("as it was", 5, rig.keyValue(0, 0, 1));
    }

    /** What becomes of a wish for a key that was or was not there, and is or is not there now. */
    private static void fate(String what, Object due, int frame, Edge.Call between, int value, char kind) {
        MotionRig rig = begun();
        between.on(rig);
        rig.wish(0, 0, frame, value, kind);
        int keys = rig.keys(0, 0);
        int taken = rig.merge();
        Edge.is(what, due, taken + " taken, " + rig.conflicts() + " in conflict, keys " + (rig.keys(0, 0) - keys));
    }

    private static void takenOrNot() {
        Edge.holds("Two people", "if what is there now is what was there when the branch was begun, the wish is taken; "
            + "otherwise, if it is not as is wished, it is a conflict, and is left.");
        String taken = "1 taken, 0 in conflict, keys 0";
        String conflict = "0 taken, 1 in conflict, keys 0";
        fate("the same key, another wish", taken, 0, r -> 0, 6, 's');
        fate("the same key, the same wish", taken, 0, r -> 0, 5, 's');
        fate("the same key, another kind", taken, 0, r -> 0, 5, 'e');
        fate("the same key, none wished", "1 taken, 0 in conflict, keys -1", 0, r -> 0, 5, 'x');
        fate("no key, one wished", "1 taken, 0 in conflict, keys 1", 1, r -> 0, 5, 's');
        fate("no key, none wished", taken, 1, r -> 0, 5, 'x');
        Edge.Call changed = r -> r.setKey(0, 0, 0, 6, 's');
        fate("another value, a third one wished", conflict, 0, changed, 7, 's');
        fate("another value, the one of before wished", conflict, 0, changed, 5, 's');
        fate("another value, this one wished", taken, 0, changed, 6, 's');
        fate("another value, this one of another kind wished", conflict, 0, changed, 6, 'l');
        fate("another value, none wished", conflict, 0, changed, 6, 'x');
        Edge.Call bent = r -> r.setKey(0, 0, 0, 5, 'l');
        fate("another kind, this one wished", taken, 0, bent, 5, 'l');
        fate("another kind, a third one wished", conflict, 0, bent, 5, 'e');
        fate("another kind, the one of before wished", conflict, 0, bent, 5, 's');
        Edge.Call gone = r -> r.removeKey(0, 0, 0);
        fate("no key any more, one wished", conflict, 0, gone, 6, 's');
        fate("no key any more, the one of before wished", conflict, 0, gone, 5, 's');
        fate("no key any more, none wished", taken, 0, gone, 5, 'x');
        Edge.Call added = r -> r.setKey(0, 0, 1, 6, 's');
        fate("a new key, another one wished", conflict, 1, added, 7, 's');
        fate("a new key, this one wished", taken, 1, added, 6, 's');
        fate("a new key, none wished", conflict, 1, added, 6, 'x');
        fate("there and back", taken, 0, r -> r.setKey(0, 0, 0, 6, 's') + r.setKey(0, 0, 0, 5, 's'), 7, 's');
    }

    private static void inOrder() {
        Edge.holds("Two people", "To merge, these keys are gone through by rising channels, layers and frames");
        MotionRig rig = begun();
        int[][] keys = {{1, 1, 100}, {1, 1, -100}, {1, 0, 100}, {1, 0, -100}, {0, 1, 100}, {0, 1, -100}, {0, 0, 100},
            {0, 0, 1}, {0, 0, 0}, {0, 0, -1}, {0, 0, -100}};
        for (int[] key : keys) {
            rig.wish(key[0], key[1], key[2], 1, 's');
            rig.setKey(key[0], key[1], key[2], 2, 's');
        }
        Edge.is("none is taken", 0, rig.merge());
        for (int i = 0; i < keys.length; i++) {
            int[] key = keys[keys.length - 1 - i];
            int due = 10000 * key[0] + 1000 * key[1] + key[2] + 100;
            Edge.is("the conflict " + i, due, rig.conflictAt(i));
        }
    }

    private static void conflictOfTheFull() {
        Edge.holds("Two people", "A wish that would be the 21st key of its curve is a conflict, too.");
        MotionRig full = House.row("kk");
        full.bake(0, 0, 0, 19);
        full.branch();
        full.wish(0, 0, -100, 1, 's');
        full.wish(0, 0, 0, 1, 's');
        full.wish(0, 0, 19, 1, 's');
        full.wish(0, 0, 20, 1, 'x');
        full.wish(0, 0, 21, 1, 's');
        full.wish(1, 0, 21, 1, 's');
        Edge.is("all but the 21st key", 4, full.merge());
        Edge.is("two", 2, full.conflicts());
        Edge.is("ahead", 0, full.conflictAt(0));
        Edge.is("behind", 121, full.conflictAt(1));
        Edge.is("20 keys", 20, full.keys(0, 0));
        MotionRig room = House.row("k");
        room.bake(0, 0, 0, 19);
        room.branch();
        room.wish(0, 0, 50, 1, 's');
        room.wish(0, 0, 5, 1, 'x');
        room.wish(0, 0, 51, 1, 's');
        Edge.is("room that is made ahead is taken once", 2, room.merge());
        Edge.is("by the first one", 151, room.conflictAt(0));
        Edge.is("20 keys", 20, room.keys(0, 0));
        MotionRig near = House.row("k");
        near.bake(0, 0, 0, 18);
        near.branch();
        near.wish(0, 0, -1, 1, 's');
        near.wish(0, 0, 3, 9, 'e');
        near.wish(0, 0, 19, 1, 's');
        Edge.is("the 20th key, and one in place of another", 2, near.merge());
        Edge.is("not the 21st", 119, near.conflictAt(0));
        Edge.is("one edit", true, near.undo());
        Edge.is("19 keys", 19, near.keys(0, 0));
    }

    private static void over() {
        Edge.holds("Two people", "Then the branch is over; conflicts are kept until the next merge.");
        MotionRig rig = begun();
        rig.wish(0, 0, 0, 1, 's');
        rig.setKey(0, 0, 0, 2, 's');
        rig.merge();
        Edge.is("over", "throws IllegalStateException", () -> rig.merge());
        Edge.is("over", "throws IllegalStateException", () -> rig.wish(0, 0, 0, 1, 's'));
        Edge.is("kept", 1, rig.conflicts());
        rig.undo();
        rig.setKey(0, 0, 0, 1, 's');
        rig.branch();
        rig.wish(0, 0, 1, 1, 's');
        Edge.is("kept", 100, rig.conflictAt(0));
        rig.merge();
        Edge.is("until the next merge", 0, rig.conflicts());
    }

    private static void branching() {
        Edge.holds("Promise 36", "Returns how many keys there are.");
        Edge.is("none", 0, new MotionRig().branch());
        Edge.is("25 of all curves", 25, merged(House.furnished()).branch());
        MotionRig rig = House.row("kt");
        rig.bake(0, 0, -100, -81);
        Edge.is("20", 20, rig.branch());
        rig.wish(0, 0, 0, 0, 's');
        rig.wish(0, 0, -100, 0, 'x');
        rig.merge();
        Edge.is("one less and one more", 20, rig.branch());
        Edge.holds("Promise 36", "Throws `IllegalStateException` if there is one");
        Edge.refused("there is one", Edge.STATE, r -> r.branch());
        Edge.refused(PeopleEdges::begun, "there is one without wishes", Edge.STATE, r -> r.branch());
    }

    /** Without its branch, whose wishes would be one key more and one less. */
    private static MotionRig merged(MotionRig rig) {
        rig.merge();
        return rig;
    }

    private static void wishing() {
        Edge.holds("Promise 37", "`channel`: the number of the channel", "`layer`: the number of the layer",
            "`frame`: the frame", "`value`: its value", "`kind`: its kind, or 'x' for no key there",
            "Returns how many keys have wishes.");
        for (int frame : Edge.within(-100, 100)) {
            for (int value : Edge.within(-1000, 1000)) {
                MotionRig rig = begun();
                Edge.is("the first one", 1, rig.wish(1, 1, frame, value, 'l'));
                Edge.is("the same key", 1, rig.wish(1, 1, frame, value, 'e'));
                Edge.is("another layer", 2, rig.wish(1, 0, frame, value, 's'));
                Edge.is("another channel", 3, rig.wish(0, 1, frame, value, 's'));
                Edge.is("another frame", 4, rig.wish(1, 1, frame / 2, value, 's'));
                rig.merge();
                Edge.is("its frame", frame < 0 ? frame : frame / 2, rig.keyAt(1, 1, 0));
                Edge.is("its value", value, rig.keyValue(1, 1, 0));
            }
        }
        for (int value : new int[] {0, 1000, 1001, -1000, -1001, Edge.LEAST_INT, Edge.MOST_INT}) {
            MotionRig rig = begun();
            Edge.is("'x' with " + value, 1, rig.wish(0, 0, 0, value, 'x'));
            Edge.is("taken", 1, rig.merge());
            Edge.is("no key there", 2, rig.keys(0, 0));
        }
    }

    private static MotionRig forty() {
        MotionRig rig = begun();
        for (int i = 0; i < 40; i++) {
            rig.wish(i % 2, i / 2 % 2, i, i, 's');
        }
        return rig;
    }

    private static void fortyWishes() {
        Edge.holds("Promise 37", "or it is the 41st key");
        MotionRig rig = begun();
        for (int i = 0; i < 40; i++) {
            Edge.is("wish " + i, i + 1, rig.wish(1, i % 2, 50 - i, i, 's'));
        }
        Edge.is("the 41st", "throws IllegalStateException", () -> rig.wish(1, 0, -50, 0, 's'));
        Edge.is("the first one again", 40, rig.wish(1, 0, 50, 9, 'x'));
        Edge.is("the last one again", 40, rig.wish(1, 1, 11, 9, 'e'));
        Edge.is("all are taken", 40, rig.merge());
        Edge.refused(PeopleEdges::forty, "the 41st", Edge.STATE, r -> r.wish(0, 0, 41, 0, 's'));
        Edge.refused(PeopleEdges::forty, "the 41st ahead of all", Edge.STATE, r -> r.wish(0, 0, -100, 0, 's'));
        Edge.refused(PeopleEdges::forty, "the 41st behind all", Edge.STATE, r -> r.wish(1, 1, 100, 0, 'x'));
        Edge.refused(PeopleEdges::forty, "the 41st, of a frame on another layer", Edge.STATE,
            r -> r.wish(0, 1, 0, 0, 'x'));
        MotionRig next = forty();
        next.merge();
        next.branch();
        Edge.is("a new branch has none", 1, next.wish(0, 0, 41, 0, 's'));
    }

    private static void wishingRefused() {
        Edge.holds("Promise 37", "Throws `IndexOutOfBoundsException` if there is no such channel or layer");
        Edge.refusedFor(House.NO_CHANNEL, Edge.INDEX, (rig, c) -> rig.wish(c, 0, 0, 0, 's'));
        Edge.refusedFor(House.NO_LAYER, Edge.INDEX, (rig, layer) -> rig.wish(0, layer, 0, 0, 'x'));
        Edge.holds("Promise 37", "Throws `IllegalArgumentException` if the frame is out of range, there is no such "
            + "kind, or the value is out of range, but not for 'x'");
        Edge.refusedFor(Edge.beside(-100, 100), Edge.ARGUMENT, (rig, frame) -> rig.wish(0, 0, frame, 0, 's'));
        Edge.refusedFor(Edge.beside(-100, 100), Edge.ARGUMENT, (rig, frame) -> rig.wish(0, 0, frame, 0, 'x'));
        Edge.refusedFor(Edge.beside(-1000, 1000), Edge.ARGUMENT, (rig, value) -> rig.wish(0, 0, 0, value, 's'));
        Edge.refusedFor(Edge.beside(-1000, 1000), Edge.ARGUMENT, (rig, value) -> rig.wish(0, 0, 0, value, 'l'));
        Edge.refusedFor(Edge.beside(-1000, 1000), Edge.ARGUMENT, (rig, value) -> rig.wish(0, 0, 0, value, 'e'));
        Edge.refusedBeside("slex", Edge.ARGUMENT, (rig, kind) -> rig.wish(0, 0, 1, 0, kind));
        Edge.holds("Promise 37", "Throws `UnsupportedOperationException` if the channel is not of the kind 'k'");
        Edge.refusedFor(new int[] {2, 3, 4, 5}, Edge.UNSUPPORTED, (rig, c) -> rig.wish(c, 0, 0, 0, 's'));
        Edge.refusedFor(new int[] {2, 3, 4, 5}, Edge.UNSUPPORTED, (rig, c) -> rig.wish(c, 1, 0, 0, 'x'));
        for (char kind : "t+-*%xnasrfcdp".toCharArray()) {
            Edge.refused(() -> House.row("k" + kind), "of the kind " + kind, Edge.UNSUPPORTED,
                rig -> rig.wish(1, 0, 0, 0, 's'));
        }
        Edge.holds("Promise 37", "Throws `IllegalStateException` if there is no branch");
        Edge.refused(() -> House.row("k"), "never", Edge.STATE, rig -> rig.wish(0, 0, 0, 0, 's'));
        Edge.refused(() -> merged(House.furnished()), "any more", Edge.STATE, rig -> rig.wish(0, 0, 0, 0, 'x'));
    }

    private static void wishingOrder() {
        Edge.holds("Exceptions", "If several exceptions apply, the one that is documented first is thrown.");
        Edge.refused("wish: no channel, no frame", Edge.INDEX, rig -> rig.wish(7, 0, 101, 0, 's'));
        Edge.refused("wish: no layer, no kind", Edge.INDEX, rig -> rig.wish(0, 3, 0, 0, '?'));
        Edge.refused("wish: no layer, no curve", Edge.INDEX, rig -> rig.wish(2, 3, 0, 0, 's'));
        Edge.refused("wish: no frame, no curve", Edge.ARGUMENT, rig -> rig.wish(2, 0, 101, 0, 'x'));
        Edge.refused("wish: no kind, no curve", Edge.ARGUMENT, rig -> rig.wish(2, 0, 0, 0, '?'));
        Edge.refused("wish: no value, no curve", Edge.ARGUMENT, rig -> rig.wish(2, 0, 0, 1001, 's'));
        Edge.Maker none = () -> House.row("kt");
        Edge.refused(none, "wish: no channel, no branch", Edge.INDEX, rig -> rig.wish(2, 0, 0, 0, 's'));
        Edge.refused(none, "wish: no layer, no branch", Edge.INDEX, rig -> rig.wish(0, 1, 0, 0, 's'));
        Edge.refused(none, "wish: no frame, no branch", Edge.ARGUMENT, rig -> rig.wish(0, 0, -101, 0, 's'));
        Edge.refused(none, "wish: no kind, no branch", Edge.ARGUMENT, rig -> rig.wish(0, 0, 0, 0, 'h'));
        Edge.refused(none, "wish: no value, no branch", Edge.ARGUMENT, rig -> rig.wish(0, 0, 0, -1001, 'e'));
        Edge.refused(none, "wish: no curve, no branch", Edge.UNSUPPORTED, rig -> rig.wish(1, 0, 0, 0, 's'));
        Edge.refused(PeopleEdges::forty, "wish: no value, the 41st", Edge.ARGUMENT,
            rig -> rig.wish(0, 0, 50, 1001, 's'));
        Edge.refused(PeopleEdges::forty, "wish: no layer, the 41st", Edge.INDEX, rig -> rig.wish(0, 2, 50, 0, 's'));
        Edge.refused(PeopleEdges::forty, "wish: no curve, the 41st", Edge.UNSUPPORTED,
            rig -> rig.wish(2, 0, 50, 0, 's'));
    }

    private static void merging() {
        Edge.holds("Promise 38", "Returns how many wishes are taken, also those that are there already.");
        Edge.is("none", 0, begun().merge());
        MotionRig rig = begun();
        rig.wish(0, 0, 0, 5, 's');
        rig.wish(0, 0, 10, 6, 's');
        rig.wish(0, 0, 20, 0, 'x');
        rig.wish(0, 0, 30, 0, 'x');
        rig.wish(0, 0, 40, 1, 'l');
        rig.setKey(0, 0, 40, 1, 'l');
        rig.removeKey(0, 0, 20);
        Edge.is("there already, or not there already", 5, rig.merge());
        Edge.is("0, 10 and 40", 3, rig.keys(0, 0));
        Edge.is("all 40 with 20 keys on two curves each", 40, forty().merge());
        Edge.holds("Promise 38", "Throws `IllegalStateException` if there is no branch");
        Edge.refused(MotionRig::new, "never", Edge.STATE, r -> r.merge());
        Edge.refused(() -> merged(House.furnished()), "any more", Edge.STATE, r -> r.merge());
        Edge.refused(PeopleEdges::conflicting, "any more, and conflicts are kept", Edge.STATE, r -> r.merge());
    }

    /** Conflicts on four curves, and no branch. */
    private static MotionRig conflicting() {
        MotionRig rig = forty();
        for (int c = 0; c < 2; c++) {
            for (int layer = 0; layer < 2; layer++) {
                rig.bake(c, layer, c + 2 * layer, c + 2 * layer + 18);
            }
        }
        rig.merge();
        return rig;
    }

    private static void counting() {
        Edge.holds("Promise 39", "Returns their number.");
        Edge.is("no merge yet", 0, new MotionRig().conflicts());
        Edge.is("a branch, no merge yet", 0, begun().conflicts());
        MotionRig rig = begun();
        for (int i = 0; i < 20; i++) {
            rig.wish(1, 0, i, 7, 's');
            rig.wish(1, 1, -i, 7, 's');
        }
        rig.bake(1, 0, 0, 19);
        rig.bake(1, 1, -19, 0);
        Edge.is("none is taken", 0, rig.merge());
        Edge.is("all 40", 40, rig.conflicts());
        Edge.is("the first one", 10100, rig.conflictAt(0));
        Edge.is("the last one", 11100, rig.conflictAt(39));
        Edge.is("not one more", "throws NoSuchElementException", () -> rig.conflictAt(40));
        rig.branch();
        rig.merge();
        Edge.is("a merge without wishes has none", 0, rig.conflicts());
    }

    private static void codes() {
        Edge.holds("Promise 40", "`index`: the index, from 0",
            "Returns 10000 times the channel plus 1000 times the layer plus the frame plus 100.");
        int[][] rows = {{0, 0, -100, 0}, {0, 0, 0, 100}, {0, 0, 100, 200}, {0, 3, -100, 3000}, {1, 0, -1, 10099},
            {15, 0, -100, 150000}, {15, 3, 100, 153200}};
        for (int[] row : rows) {
            MotionRig rig = House.row("kkkkkkkkkkkkkkkk");
            rig.addLayer('+');
            rig.addLayer('+');
            rig.addLayer('+');
            rig.branch();
            rig.wish(row[0], row[1], row[2], 1, 's');
            rig.setKey(row[0], row[1], row[2], 2, 's');
            rig.merge();
            Edge.is("of " + row[0] + " " + row[1] + " " + row[2], row[3], rig.conflictAt(0));
        }
        Edge.holds("Promise 40", "Throws `NoSuchElementException` if there is no such conflict");
        int[] indices = {1, -1, 39, 40, Edge.LEAST_INT, Edge.MOST_INT};
        Edge.refusedFor(indices, NoSuchElementException.class, (rig, index) -> rig.conflictAt(index));
        Edge.is("but the first one", 10100, House.furnished().conflictAt(0));
        Edge.refused(MotionRig::new, "none at all", NoSuchElementException.class, rig -> rig.conflictAt(0));
    }
}
