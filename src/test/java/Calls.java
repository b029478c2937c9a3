/** Every call of the face by its name, on the class and on the model. */
final class Calls {
    private Calls() {
    }

    private static int i(Object x) {
        return (Integer) x;
    }

    private static char c(Object x) {
        return (Character) x;
    }

    private static boolean b(Object x) {
        return (Boolean) x;
    }

    static Object onRig(MotionRig rig, String call, Object[] a) {
        switch (call) {
            case "addChannel":
                return rig.addChannel(c(a[0]), i(a[1]), i(a[2]), i(a[3]), i(a[4]));
            case "rejoin":
                return rig.rejoin(i(a[0]), i(a[1]), i(a[2]));
            case "setKey":
                return rig.setKey(i(a[0]), i(a[1]), i(a[2]), i(a[3]), c(a[4]));
            case "removeKey":
                return rig.removeKey(i(a[0]), i(a[1]), i(a[2]));
            case "keys":
                return rig.keys(i(a[0]), i(a[1]));
            case "keyAt":
                return rig.keyAt(i(a[0]), i(a[1]), i(a[2]));
            case "keyValue":
                return rig.keyValue(i(a[0]), i(a[1]), i(a[2]));
            case "extend":
                return rig.extend(i(a[0]), i(a[1]), c(a[2]), c(a[3]));
            case "addLayer":
                return rig.addLayer(c(a[0]));
            case "weigh":
                return rig.weigh(i(a[0]), i(a[1]));
            case "mute":
                return rig.mute(i(a[0]), b(a[1]));
            case "leaveOut":
                return rig.leaveOut(i(a[0]), i(a[1]), b(a[2]));
            case "setTime":
                return rig.setTime(i(a[0]));
            case "value":
                return rig.value(i(a[0]));
            case "valueAt":
                return rig.valueAt(i(a[0]), i(a[1]));
            case "phase":
                return rig.phase(i(a[0]), i(a[1]));
            case "whole":
                return rig.whole(i(a[0]));
            case "isClean":
                return rig.isClean(i(a[0]));
            case "runs":
                return rig.runs();
            case "addBone":
                return rig.addBone(i(a[0]), i(a[1]), i(a[2]));
            case "direction":
                return rig.direction(i(a[0]));
            case "tip":
                return rig.tip(i(a[0]), b(a[1]));
            case "addMarker":
                return rig.addMarker();
            case "follow":
                return rig.follow(i(a[0]), i(a[1]), i(a[2]));
            case "place":
                return rig.place(i(a[0]), b(a[1]));
            case "reach":
                return rig.reach(i(a[0]), i(a[1]), i(a[2]));
            case "bake":
                return rig.bake(i(a[0]), i(a[1]), i(a[2]), i(a[3]));
            case "thin":
                return rig.thin(i(a[0]), i(a[1]), i(a[2]));
            case "undo":
                return rig.undo();
            case "redo":
                return rig.redo();
            case "name":
                return rig.name(i(a[0]), c(a[1]));
            case "override":
                return rig.override(c(a[0]), i(a[1]));
            case "dropOverride":
                return rig.dropOverride(c(a[0]));
            case "orphans":
                return rig.orphans();
            case "branch":
                return rig.branch();
            case "wish":
                return rig.wish(i(a[0]), i(a[1]), i(a[2]), i(a[3]), c(a[4]));
            case "merge":
                return rig.merge();
            case "conflicts":
                return rig.conflicts();
            case "conflictAt":
                return rig.conflictAt(i(a[0]));
            case "tell":
                return rig.tell(b(a[0]), b(a[1]));
            case "isPlayed":
                return rig.isPlayed(i(a[0]), i(a[1]), i(a[2]));
            case "cleanShare":
                return rig.cleanShare();
            case "meanKeys":
                return rig.meanKeys();
            default:
                throw new AssertionError(call);
        }
    }

    static Object onModel(Model model, String call, Object[] a) {
        switch (call) {
            case "addChannel":
                return model.addChannel(c(a[0]), i(a[1]), i(a[2]), i(a[3]), i(a[4]));
            case "rejoin":
                return model.rejoin(i(a[0]), i(a[1]), i(a[2]));
            case "setKey":
                return model.setKey(i(a[0]), i(a[1]), i(a[2]), i(a[3]), c(a[4]));
            case "removeKey":
                return model.removeKey(i(a[0]), i(a[1]), i(a[2]));
            case "keys":
                return model.keys(i(a[0]), i(a[1]));
            case "keyAt":
                return model.keyAt(i(a[0]), i(a[1]), i(a[2]));
            case "keyValue":
                return model.keyValue(i(a[0]), i(a[1]), i(a[2]));
            case "extend":
                return model.extend(i(a[0]), i(a[1]), c(a[2]), c(a[3]));
            case "addLayer":
                return model.addLayer(c(a[0]));
            case "weigh":
                return model.weigh(i(a[0]), i(a[1]));
            case "mute":
                return model.mute(i(a[0]), b(a[1]));
            case "leaveOut":
                return model.leaveOut(i(a[0]), i(a[1]), b(a[2]));
            case "setTime":
                return model.setTime(i(a[0]));
            case "value":
                return model.value(i(a[0]));
            case "valueAt":
                return model.valueAt(i(a[0]), i(a[1]));
            case "phase":
                return model.phase(i(a[0]), i(a[1]));
            case "whole":
                return model.whole(i(a[0]));
            case "isClean":
                return model.isClean(i(a[0]));
            case "runs":
                return model.runs();
            case "addBone":
                return model.addBone(i(a[0]), i(a[1]), i(a[2]));
            case "direction":
                return model.direction(i(a[0]));
            case "tip":
                return model.tip(i(a[0]), b(a[1]));
            case "addMarker":
                return model.addMarker();
            case "follow":
                return model.follow(i(a[0]), i(a[1]), i(a[2]));
            case "place":
                return model.place(i(a[0]), b(a[1]));
            case "reach":
                return model.reach(i(a[0]), i(a[1]), i(a[2]));
            case "bake":
                return model.bake(i(a[0]), i(a[1]), i(a[2]), i(a[3]));
            case "thin":
                return model.thin(i(a[0]), i(a[1]), i(a[2]));
            case "undo":
                return model.undo();
            case "redo":
                return model.redo();
            case "name":
                return model.name(i(a[0]), c(a[1]));
            case "override":
                return model.override(c(a[0]), i(a[1]));
            case "dropOverride":
                return model.dropOverride(c(a[0]));
            case "orphans":
                return model.orphans();
            case "branch":
                return model.branch();
            case "wish":
                return model.wish(i(a[0]), i(a[1]), i(a[2]), i(a[3]), c(a[4]));
            case "merge":
                return model.merge();
            case "conflicts":
                return model.conflicts();
            case "conflictAt":
                return model.conflictAt(i(a[0]));
            case "tell":
                return model.tell(b(a[0]), b(a[1]));
            case "isPlayed":
                return model.isPlayed(i(a[0]), i(a[1]), i(a[2]));
            case "cleanShare":
                return model.cleanShare();
            case "meanKeys":
                return model.meanKeys();
            default:
                throw new AssertionError(call);
        }
    }
}
