/** The paragraph 'Undoing' of the document, and promises 30 and 31. */
final class UndoEdges {
    private UndoEdges() {
    }

    static void run() {
        edits();
        noEdits();
        otherKeys();
        lastTwenty();
        doneAgain();
        untilANewEdit();
        allKeysAndWeights();
        undoing();
        redoing();
    }

    /** How many edits can be undone; none of them is left then. */
    private static int undone(MotionRig rig) {
        int undone = 0;
        while (undone < 30 && rig.undo()) {
            undone++;
        }
        return undone;
    }

    private static MotionRig limb() {
        MotionRig rig = House.row("kk");
        rig.addLayer('+');
        rig.addBone(-1, 9, 0);
        rig.addBone(0, 5, 1);
        return rig;
    }

    private static void edit(String what, int due, Edge.Call call) {
        MotionRig rig = limb();
        call.on(rig);
        Edge.is(what, due, undone(rig));
    }

    private static void edits() {
        Edge.holds("Undoing", "An edit is a call that sets or takes away keys, reaches, bakes, thins, merges, or "
            + "changes a weight of a layer, and has changed something by it");
        edit("setting a key", 1, rig -> rig.setKey(0, 0, 0, 0, 's'));
        edit("setting and taking away", 2, rig -> rig.setKey(0, 0, 0, 0, 's') + rig.removeKey(0, 0, 0));
        edit("reaching", 1, rig -> rig.reach(1, 0, 0));
        edit("reaching where it is", 1, rig -> rig.reach(1, 0, 0) + rig.reach(1, 0, 0));
        edit("reaching elsewhere", 2, rig -> rig.reach(1, 0, 0) + rig.reach(1, 1000, 0));
        edit("baking", 1, rig -> rig.bake(0, 0, 0, 19));
        edit("baking the same again", 1, rig -> rig.bake(0, 0, 0, 19) + rig.bake(0, 0, 3, 9));
        edit("baking one more", 2, rig -> rig.bake(0, 0, 0, 18) + rig.bake(0, 0, 18, 19));
        edit("thinning", 2, rig -> rig.bake(0, 0, 0, 19) + rig.thin(0, 0, 0));
        edit("thinning again", 2, rig -> rig.bake(0, 0, 0, 19) + rig.thin(0, 0, 0) + rig.thin(0, 0, 0));
        edit("merging", 1, rig -> rig.branch() + rig.wish(0, 0, 0, 1, 's') + rig.wish(1, 1, 0, 1, 's') + rig.merge());
        edit("merging what is there", 1,
            rig -> rig.setKey(0, 0, 0, 1, 's') + rig.branch() + rig.wish(0, 0, 0, 1, 's') + rig.merge());
        edit("merging nothing", 0, rig -> rig.branch() + rig.merge());
        edit("merging no key where none is", 0, rig -> rig.branch() + rig.wish(0, 0, 0, 1, 'x') + rig.merge());
        edit("merging a conflict alone", 1,
            rig -> rig.branch() + rig.wish(0, 0, 0, 1, 's') + rig.setKey(0, 0, 0, 2, 's') + rig.merge());
        edit("a weight", 1, rig -> rig.weigh(1, 0));
        edit("a weight and back", 2, rig -> rig.weigh(1, 0) + rig.weigh(1, 100));
        edit("the same weight", 0, rig -> rig.weigh(1, 100));
    }

    private static void noEdits() {
        Edge.holds("Undoing", "and has changed something by it");
        MotionRig none = new MotionRig();
        none.addLayer('o');
        none.weigh(1, 99);
        Edge.is("a weight where there are no channels", 1, undone(none));
        MotionRig rig = House.furnished();
        int before = undone(House.furnished());
        rig.extend(0, 0, 'h', 'h');
        rig.addLayer('+');
        rig.mute(1, true);
        rig.leaveOut(1, 0, true);
        rig.setTime(-400);
        rig.rejoin(4, 0, 5);
        rig.addChannel('k', 0, 0, 0, 0);
        rig.addBone(0, 1, 1);
        rig.addMarker();
        rig.follow(0, 0, 9);
        rig.name(1, 'y');
        rig.override('y', 4);
        rig.dropOverride('y');
        rig.wish(0, 0, 0, 7, 's');
        rig.isPlayed(0, 0, 40);
        rig.setKey(0, 0, 0, -20, 'e');
        rig.weigh(1, 60);
        Check.outcome(() -> rig.setKey(0, 0, 101, 0, 's'));
        Edge.is("no edit by other calls, nor by what changes nothing", before, undone(rig));
    }

    private static void otherKeys() {
        Edge.holds("Undoing", "a key is another one if its value or its kind is.");
        char[] kinds = {'s', 'l', 'e'};
        for (char kind : kinds) {
            for (char other : kinds) {
                edit("of the kind " + kind + " and then " + other, kind == other ? 1 : 2,
                    rig -> rig.setKey(0, 0, 0, 1000, kind) + rig.setKey(0, 0, 0, 1000, other));
                edit("and of another value", 2,
                    rig -> rig.setKey(0, 0, 0, 1000, kind) + rig.setKey(0, 0, 0, 999, other));
            }
        }
        for (char kind : kinds) {
            MotionRig rig = House.curve(kind, 0, 0, 4, 16);
            double due = rig.valueAt(0, 4);
            rig.setKey(0, 0, 0, 0, kind == 's' ? 'e' : 's');
            Edge.is("it is another one", false, due == rig.valueAt(0, 4));
            rig.undo();
            Edge.is("and it is as it was", due, rig.valueAt(0, 4));
        }
    }

    private static void lastTwenty() {
        Edge.holds("Undoing", "The last 20 edits can be undone, the latest one first, and done again");
        for (int edits : new int[] {0, 1, 19, 20, 21, 22, 41, 100}) {
            MotionRig rig = House.row("k");
            for (int i = 1; i <= edits; i++) {
                rig.setKey(0, 0, 0, i, 's');
            }
            int most = Math.min(edits, 20);
            for (int i = 1; i <= most; i++) {
                Edge.is("undo " + i + " of " + edits, true, rig.undo());
                Edge.is("what is there", (double) (edits - i), rig.value(0));
            }
            Edge.is("no more of " + edits, false, rig.undo());
            Edge.is("what is there", (double) (edits - most), rig.value(0));
            for (int i = most - 1; i >= 0; i--) {
                Edge.is("redo, but for " + i, true, rig.redo());
                Edge.is("what is there", (double) (edits - i), rig.value(0));
            }
            Edge.is("no more to do again", false, rig.redo());
            Edge.is("what is there", (double) edits, rig.value(0));
        }
    }

    private static void doneAgain() {
        Edge.holds("Undoing", "and done again");
        MotionRig rig = House.row("k");
        for (int i = 1; i <= 30; i++) {
            rig.setKey(0, 0, 0, i, 's');
            if (i % 3 == 0) {
                Edge.is("back", true, rig.undo());
                Edge.is("and forth", true, rig.redo());
                Edge.is("and no further", false, rig.redo());
            }
        }
        for (int i = 0; i < 20; i++) {
            rig.undo();
        }
        Edge.is("the 20 before the last ones", 10.0, rig.value(0));
        for (int i = 0; i < 7; i++) {
            rig.redo();
        }
        Edge.is("seven again", 17.0, rig.value(0));
        rig.setKey(0, 0, 0, -1, 's');
        Edge.is("a new one ends the others", false, rig.redo());
        int undone = undone(rig);
        Edge.is("seven and the new one", 8, undone);
        Edge.is("down to", 10.0, rig.value(0));
    }

    private static void untilANewEdit() {
        Edge.holds("Undoing", "until a new edit is made");
        Edge.Call[] edits = {rig -> rig.setKey(0, 0, 1, 1, 's'), rig -> rig.removeKey(0, 0, 0),
            rig -> rig.weigh(1, 1), rig -> rig.reach(1, 5, 5), rig -> rig.bake(1, 1, 0, 1),
            rig -> rig.thin(0, 0, 1000), rig -> rig.merge()};
        for (int i = 0; i < edits.length; i++) {
            MotionRig rig = limb();
            rig.bake(0, 0, -1, 1);
            rig.branch();
            rig.wish(1, 0, 0, 0, 's');
            rig.setKey(1, 0, 5, 7, 's');
            rig.undo();
            edits[i].on(rig);
            Edge.is("the edit " + i + " ends it", false, rig.redo());
            Edge.is("and can be undone", true, rig.undo());
            Edge.is("and done again", true, rig.redo());
        }
        Edge.Call[] others = {rig -> rig.setKey(0, 0, 0, 0, 'l'), rig -> rig.weigh(1, 100),
            rig -> rig.bake(0, 0, -1, 1), rig -> rig.mute(1, true), rig -> rig.setTime(9),
            rig -> Check.outcome(() -> rig.removeKey(0, 0, 9)), rig -> Check.outcome(() -> rig.weigh(1, 101)),
            rig -> rig.extend(0, 0, 'o', 'o'), rig -> rig.addLayer('o'), rig -> rig.addChannel('k', 0, 0, 0, 0)};
        for (int i = 0; i < others.length; i++) {
            MotionRig rig = limb();
            rig.bake(0, 0, -1, 1);
            rig.setKey(1, 0, 5, 7, 's');
            rig.undo();
            others[i].on(rig);
            Edge.is("the call " + i + " does not end it", true, rig.redo());
            Edge.is("the key is there", 7, rig.keyValue(1, 0, 0));
        }
    }

    private static void allKeysAndWeights() {
        Edge.holds("Undoing", "each of these makes all keys of all curves, and all weights of layers, what they were "
            + "ahead of the edit, or behind it.");
        MotionRig rig = limb();
        rig.addLayer('o');
        rig.bake(0, 2, -100, -81);
        rig.setKey(1, 1, 100, -1000, 'e');
        rig.weigh(2, 0);
        rig.weigh(1, 33);
        rig.branch();
        for (int i = 0; i < 20; i++) {
            rig.wish(0, 2, i - 100, 0, 'x');
            rig.wish(1, 0, i, 50 + i, 'l');
        }
        Edge.is("40 wishes in one edit", 40, rig.merge());
        Edge.is("undone", true, rig.undo());
        Edge.is("20 keys are there again", 20, rig.keys(0, 2));
        Edge.is("and 20 are not", 0, rig.keys(1, 0));
        Edge.is("undone", true, rig.undo());
        Edge.is("done again", true, rig.redo() && rig.redo());
        Edge.is("20 keys are gone again", 0, rig.keys(0, 2));
        Edge.is("and 20 are there", 69, rig.keyValue(1, 0, 19));
        Edge.is("five edits", 5, undone(rig));
        Edge.is("the weight of the layer 1", 100, rig.weigh(1, 100));
        Edge.is("the weight of the layer 2", 100, rig.weigh(2, 100));
        for (int i = 0; i < 5; i++) {
            Edge.is("done again", true, rig.redo());
        }
        Edge.is("the weight of the layer 1", 33, rig.weigh(1, 33));
        Edge.is("the weight of the layer 2", 0, rig.weigh(2, 0));
        Edge.is("the key on the layer 1", -1000, rig.keyValue(1, 1, 0));
    }

    private static void undoing() {
        Edge.holds("Promise 30", "Returns whether there was one.");
        Edge.is("none", false, new MotionRig().undo());
        MotionRig rig = House.curve('s', 0, 0);
        Edge.is("one", true, rig.undo());
        Edge.is("none", false, rig.undo());
        Edge.is("none", false, rig.undo());
        Edge.is("but it can be done again", true, rig.redo());
    }

    private static void redoing() {
        Edge.holds("Promise 31", "Returns whether there was one.");
        Edge.is("none", false, new MotionRig().redo());
        MotionRig rig = House.curve('s', 0, 0);
        Edge.is("none undone", false, rig.redo());
        rig.undo();
        Edge.is("one", true, rig.redo());
        Edge.is("none", false, rig.redo());
        Edge.is("but it can be undone", true, rig.undo());
    }
}
