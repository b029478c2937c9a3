import java.util.ArrayList;
import java.util.List;

/**
 * All that can be seen of a rig, as a list of calls and answers: first what is seen without a change, then what is
 * asked, and in the end what only calls show that change the rig. Two rigs that were called alike look alike.
 */
final class Looks {
    private static final int MOST_CALLS = 400;
    private static final int[] TIMES = {-400, -2, 0, 5, 400};
    private static final String LETTERS = "abnz";

    private final MotionRig rig;
    private final List<String> seen = new ArrayList<>();
    private int channels;
    private int layers;

    private Looks(MotionRig rig) {
        this.rig = rig;
    }

    static List<String> of(MotionRig rig) {
        Looks looks = new Looks(rig);
        looks.lookAtChannels();
        looks.lookAtKeys();
        looks.ask();
        looks.goBackAndForth();
        looks.useLayers();
        looks.useNames();
        looks.merge();
        looks.fillUp();
        if (looks.seen.size() > MOST_CALLS) {
            throw new AssertionError("a look of " + looks.seen.size() + " calls");
        }
        return looks.seen;
    }

    private Object note(String what, Check.Call call) {
        Object answer = Check.outcome(call);
        seen.add(what + " " + answer);
        return answer;
    }

    private boolean isRefused(String what, Check.Call call) {
        return note(what, call).toString().startsWith("throws");
    }

    private void lookAtChannels() {
        note("runs", () -> rig.runs());
        note("cleanShare", () -> rig.cleanShare());
        note("meanKeys", () -> rig.meanKeys());
        note("orphans", () -> rig.orphans());
        for (int i = 0; i <= 16; i++) {
            int c = i;
            if (isRefused("isClean " + c, () -> rig.isClean(c))) {
                break;
            }
            channels = c + 1;
        }
        for (int i = 0; i < channels; i++) {
            int c = i;
            for (int time : channels > 8 ? new int[] {5} : TIMES) {
                note("valueAt " + c + " " + time, () -> rig.valueAt(c, time));
            }
        }
        lookAtConflicts();
    }

    private void lookAtConflicts() {
        note("conflicts", () -> rig.conflicts());
        for (int i = 0; i <= 40; i++) {
            int index = i;
            if (isRefused("conflictAt " + index, () -> rig.conflictAt(index))) {
                break;
            }
        }
    }

    private void lookAtKeys() {
        for (int i = 0; i < 4; i++) {
            int layer = i;
            if (channels == 0 || isRefused("keys 0 " + layer, () -> rig.keys(0, layer))) {
                break;
            }
            layers = layer + 1;
        }
        for (int c = 0; c < channels; c++) {
            for (int layer = 0; layer < layers; layer++) {
                lookAtCurve(c, layer, rig.keys(c, layer));
            }
        }
    }

    private void lookAtCurve(int c, int layer, int keys) {
        for (int i = 0; i < keys; i++) {
            int index = i;
            String where = c + " " + layer + " " + i;
            note("keyAt " + where, () -> rig.keyAt(c, layer, index));
            note("keyValue " + where, () -> rig.keyValue(c, layer, index));
        }
    }

    private void ask() {
        note("setTime", () -> rig.setTime(3));
        for (int i = 0; i < channels; i++) {
            int c = i;
            note("value " + c, () -> rig.value(c));
        }
        for (int i = 0; i <= 8; i++) {
            int bone = i;
            if (isRefused("direction " + bone, () -> rig.direction(bone))) {
                break;
            }
            note("tip " + bone, () -> rig.tip(bone, true));
        }
        for (int i = 0; i <= 4; i++) {
            int marker = i;
            if (isRefused("place x " + marker, () -> rig.place(marker, true))) {
                break;
            }
            note("place y " + marker, () -> rig.place(marker, false));
        }
        note("runs", () -> rig.runs());
        note("tell", () -> rig.tell(true, false));
    }

    private void goBackAndForth() {
        for (int i = 0; i <= 20 && note("redo", () -> rig.redo()).equals(true); i++) {
            note("meanKeys", () -> rig.meanKeys());
        }
        for (int i = 0; i <= 20 && note("undo", () -> rig.undo()).equals(true); i++) {
            note("meanKeys", () -> rig.meanKeys());
        }
        for (int i = 0; i <= 20 && note("redo", () -> rig.redo()).equals(true); i++) {
            note("value", () -> rig.value(0));
        }
    }

    private void useLayers() {
        for (int i = 1; i < layers; i++) {
            int layer = i;
            note("weigh " + layer, () -> rig.weigh(layer, 50));
            note("mute " + layer, () -> rig.mute(layer, true));
            for (int j = 0; j < channels; j++) {
                int c = j;
                note("leaveOut " + layer + " " + c, () -> rig.leaveOut(layer, c, true));
            }
        }
        for (int i = 0; i < channels; i++) {
            int c = i;
            for (int j = 0; j < layers && channels <= 8; j++) {
                int layer = j;
                note("extend " + c + " " + layer, () -> rig.extend(c, layer, 'h', 'h'));
            }
        }
        for (int i = 0; i < 16; i++) {
            int marker = i / 8;
            int bone = i % 8;
            if (isRefused("follow " + marker + " " + bone, () -> rig.follow(marker, bone, 1)) && bone == 0) {
                break;
            }
        }
    }

    private void useNames() {
        for (int i = 0; i < LETTERS.length() && channels > 0; i++) {
            char letter = LETTERS.charAt(i);
            note("name 0 " + letter, () -> rig.name(0, letter));
            note("dropOverride " + letter, () -> rig.dropOverride(letter));
        }
        for (int i = 0; i < channels; i++) {
            int c = i;
            note("name " + c, () -> rig.name(c, (char) ('a' + c)));
        }
        note("override", () -> rig.override('y', 1));
    }

    private void merge() {
        note("merge", () -> rig.merge());
        lookAtConflicts();
        note("meanKeys", () -> rig.meanKeys());
        if (channels > 0) {
            note("keyValue", () -> rig.keyValue(0, 0, 0));
            note("keyAt", () -> rig.keyAt(0, 0, rig.keys(0, 0) - 1));
            note("keyValue", () -> rig.keyValue(0, 0, rig.keys(0, 0) - 1));
        }
        note("branch", () -> rig.branch());
    }

    private void fillUp() {
        for (int i = 0; i <= 16 && !isRefused("addChannel", () -> rig.addChannel('t', 0, 0, 0, 0)); i++) {
            continue;
        }
        for (int i = 0; i <= 4 && !isRefused("addLayer", () -> rig.addLayer('+')); i++) {
            continue;
        }
        for (int i = 0; i <= 8 && !isRefused("addBone", () -> rig.addBone(-1, 1, 0)); i++) {
            continue;
        }
        for (int i = 0; i <= 4 && !isRefused("addMarker", () -> rig.addMarker()); i++) {
            continue;
        }
    }
}
