/** The paragraph 'Curves' of the document, and promises 4 to 9 and 44. */
final class CurveEdges {
    private static final int[] NO_FRAMES = Edge.beside(-100, 100);
    private static final int[] NO_VALUES = Edge.beside(-1000, 1000);

    private CurveEdges() {
    }

    static void run() {
        framesAndValues();
        twenty();
        between();
        atTheLast();
        held();
        round();
        roundAndOn();
        apartEnds();
        endsOfAllCurves();
        fewKeys();
        setting();
        settingRefused();
        settingOrder();
        removing();
        counting();
        reading();
        readingRefused();
        extending();
        extendingRefused();
        means();
    }

    /** Twenty keys on the layer 0 of the channel 0, from a frame on. */
    private static MotionRig full(int from) {
        MotionRig rig = House.row("kt");
        rig.bake(0, 0, from, from + 19);
        return rig;
    }

    private static void framesAndValues() {
        Edge.holds("Curves", "with keys at whole frames from -100 to 100", "each with a value from -1000 to 1000 and a "
            + "kind: 's' step, 'l' line, 'e' ease.");
        for (int frame : Edge.within(-100, 100)) {
            for (int value : Edge.within(-1000, 1000)) {
                for (char kind : "sle".toCharArray()) {
                    MotionRig rig = House.small();
                    Edge.is(frame + " " + value + " " + kind, 2, rig.setKey(0, 0, frame, value, kind));
                    Edge.is("its frame", frame, rig.keyAt(0, 0, frame < 1 ? 0 : 1));
                    Edge.is("its value", value, rig.keyValue(0, 0, frame < 1 ? 0 : 1));
                    Edge.is("the channel there", (double) value, rig.valueAt(0, 4 * frame));
                }
            }
        }
        Edge.refusedFor(NO_FRAMES, Edge.ARGUMENT, (rig, frame) -> rig.setKey(0, 0, frame, 0, 's'));
        Edge.refusedFor(NO_VALUES, Edge.ARGUMENT, (rig, value) -> rig.setKey(0, 0, 0, value, 's'));
    }

    private static void twenty() {
        Edge.holds("Curves", "A channel of the kind 'k' has a curve on each layer, with keys at whole frames from -100 "
            + "to 100, at most 20");
        MotionRig rig = House.row("k");
        rig.addLayer('+');
        rig.addLayer('o');
        rig.addLayer('+');
        for (int i = 0; i < 20; i++) {
            for (int layer = 0; layer < 4; layer++) {
                Edge.is("keys of layer " + layer, i + 1, rig.setKey(0, layer, (i * 7) % 20 * 10 - 100, layer, 'l'));
            }
        }
        for (int layer = 0; layer < 4; layer++) {
            int full = layer;
            Edge.is("20 keys", 20, rig.keys(0, layer));
            Edge.is("the last one", 90, rig.keyAt(0, layer, 19));
            Edge.is("not one more", "throws IllegalStateException", () -> rig.setKey(0, full, 1, 0, 's'));
            Edge.is("in place of the first one", 20, rig.setKey(0, layer, -100, 5, 's'));
            Edge.is("in place of the last one", 20, rig.setKey(0, layer, 90, 5, 's'));
        }
    }

    private static void between() {
        Edge.holds("Curves", "At a time t, in frames, between two keys, or at the first one of both, with u as (t - f) "
            + "/ (g - f), where f and g are their frames, and a and b their values: for a step, a; for a line, a + (b "
            + "- a) * u; for an ease, a + (b - a) * (u * u * (3.0 - 2.0 * u)).");
        int[][] spans = {{-100, 100}, {-100, -99}, {99, 100}, {0, 1}, {-1, 0}, {-3, 4}};
        int[][] pairs = {{-1000, 1000}, {1000, -1000}, {0, 1}, {7, 7}};
        for (int[] span : spans) {
            for (int[] pair : pairs) {
                for (char kind : "sle".toCharArray()) {
                    MotionRig rig = House.curve(kind, span[0], pair[0], span[1], pair[1]);
                    span(rig, kind, span, pair);
                }
            }
        }
        MotionRig three = House.curve('l', 0, 0, 2, 20);
        three.setKey(0, 0, 1, 500, 's');
        Edge.is("the kind of the first one of both, ahead of the key in the middle", 375.0, three.valueAt(0, 3));
        Edge.is("at the key in the middle", 500.0, three.valueAt(0, 4));
        Edge.is("and behind it", 500.0, three.valueAt(0, 7));
        Edge.is("to the last one", 20.0, three.valueAt(0, 8));
    }

    private static void span(MotionRig rig, char kind, int[] span, int[] pair) {
        double a = pair[0];
        double b = pair[1];
        int[] times = {4 * span[0], 4 * span[0] + 1, 2 * (span[0] + span[1]), 4 * span[1] - 1};
        for (int time : times) {
            double u = (time / 4.0 - span[0]) / (span[1] - span[0]);
            double line = a + (b - a) * u;
            double ease = a + (b - a) * (u * u * (3.0 - 2.0 * u));
            Edge.is(kind + " at " + time, kind == 's' ? a : kind == 'l' ? line + 0.0 : ease + 0.0,
                rig.valueAt(0, time));
        }
    }

    private static void atTheLast() {
        Edge.holds("Curves", "At the last key, its value.");
        for (char kind : "sle".toCharArray()) {
            for (char end : "hco".toCharArray()) {
                MotionRig rig = House.curve(kind, -100, -9, 0, 40, 100, 77);
                rig.extend(0, 0, end, end);
                Edge.is("at the frame 100", 77.0, rig.valueAt(0, 400));
                rig.removeKey(0, 0, 100);
                Edge.is("at the frame 0", 40.0, rig.valueAt(0, 0));
            }
        }
    }

    private static void held() {
        Edge.holds("Curves", "Ahead of the first key and behind the last one, by the two ends of the curve, each 'h' "
            + "at first: 'h', the value of the first or the last key");
        for (char kind : "sle".toCharArray()) {
            MotionRig rig = House.curve(kind, -1, -1000, 1, 1000);
            Edge.is("both at first", 'h', rig.extend(0, 0, 'h', 'h'));
            Edge.is("a quarter ahead", -1000.0, rig.valueAt(0, -5));
            Edge.is("far ahead", -1000.0, rig.valueAt(0, -400));
            Edge.is("a quarter behind", 1000.0, rig.valueAt(0, 5));
            Edge.is("far behind", 1000.0, rig.valueAt(0, 400));
        }
    }

    private static void round() {
        Edge.holds("Curves", "'c', what the curve is at first + (t - first - n * length), where first is the frame of "
            + "the first key, length the frame of the last one less that, and n is Math.floor((t - first) / length)");
        MotionRig rig = House.curve('l', -1, 10, 2, 40);
        rig.extend(0, 0, 'c', 'c');
        double[][] rows = {{-400, 10}, {-5, 37.5}, {-16, 10}, {-17, 37.5}, {-15, 12.5}, {-4, 10}, {7, 37.5}, {8, 40},
            {9, 12.5}, {19, 37.5}, {20, 10}, {21, 12.5}, {32, 10}, {400, 30}};
        for (double[] row : rows) {
            Edge.is("at " + row[0], row[1], rig.valueAt(0, (int) row[0]));
        }
        MotionRig widest = House.curve('l', -100, -100, 100, 100);
        widest.extend(0, 0, 'c', 'c');
        Edge.is("nothing is ahead of the first frame", -100.0, widest.valueAt(0, -400));
        Edge.is("nor behind the last one", 100.0, widest.valueAt(0, 400));
        MotionRig least = House.curve('l', 0, 0, 1, 8);
        least.extend(0, 0, 'c', 'c');
        for (int time = -400; time <= 400; time += Math.abs(time) < 60 ? 1 : 3) {
            double due = time == 4 ? 8.0 : 2.0 * Math.floorMod(time, 4);
            Edge.is("of the length 1 at " + time, due, least.valueAt(0, time));
        }
    }

    private static void roundAndOn() {
        Edge.holds("Curves", "'o', the same plus n * (b - a), where a is the value of the first key and b that of the "
            + "last one.");
        MotionRig rig = House.curve('l', 0, 0, 1, 1000);
        rig.extend(0, 0, 'o', 'o');
        for (int time = -400; time <= 400; time += Math.abs(time) < 60 ? 1 : 3) {
            Edge.is("a line that goes on at " + time, 250.0 * time, rig.valueAt(0, time));
        }
        MotionRig down = House.curve('s', -100, 1000, -99, -1000);
        down.extend(0, 0, 'o', 'o');
        Edge.is("the first key", 1000.0, down.valueAt(0, -400));
        Edge.is("the last key", -1000.0, down.valueAt(0, -396));
        Edge.is("a quarter behind it", -1000.0, down.valueAt(0, -395));
        Edge.is("two lengths on", -3000.0, down.valueAt(0, -392));
        Edge.is("200 lengths on", 1000.0 - 200 * 2000.0, down.valueAt(0, 400));
        MotionRig up = House.curve('s', 99, 0, 100, 1000);
        up.extend(0, 0, 'o', 'o');
        Edge.is("a quarter ahead", -1000.0, up.valueAt(0, 395));
        Edge.is("one length ahead", -1000.0, up.valueAt(0, 392));
        Edge.is("a quarter more", -2000.0, up.valueAt(0, 391));
        Edge.is("199 lengths ahead", -199000.0, up.valueAt(0, -400));
    }

    private static void apartEnds() {
        Edge.holds("Curves", "Ahead of the first key and behind the last one, by the two ends of the curve");
        String ends = "hco";
        for (int i = 0; i < 9; i++) {
            MotionRig rig = House.curve('l', 0, 4, 2, 12);
            rig.extend(0, 0, ends.charAt(i / 3), ends.charAt(i % 3));
            double[] ahead = {4.0, 11.0, 3.0};
            double[] behind = {12.0, 5.0, 13.0};
            Edge.is("ahead by " + ends.charAt(i / 3), ahead[i / 3], rig.valueAt(0, -1));
            Edge.is("behind by " + ends.charAt(i % 3), behind[i % 3], rig.valueAt(0, 9));
        }
    }

    /** Sixteen curves on each of four layers. */
    private static MotionRig sixtyFour() {
        MotionRig rig = House.row("kkkkkkkkkkkkkkkk");
        rig.addLayer('+');
        rig.addLayer('+');
        rig.addLayer('+');
        return rig;
    }

    private static void endsOfAllCurves() {
        Edge.holds("Curves", "by the two ends of the curve, each 'h' at first");
        for (int curve = 0; curve < 64; curve++) {
            int c = curve / 4;
            int layer = curve % 4;
            MotionRig own = sixtyFour();
            own.setKey(c, layer, 0, 4, 'l');
            own.setKey(c, layer, 2, 12, 'l');
            own.value(c);
            own.extend(c, layer, 'c', 'o');
            Edge.is("dirty by an end of its own", false, own.isClean(c));
            Edge.is("ahead on " + c + " " + layer, 11.0, own.valueAt(c, -1));
            Edge.is("behind on " + c + " " + layer, 13.0, own.valueAt(c, 9));
            own.value(c);
            Edge.is("as it was", 'c', own.extend(c, layer, 'c', 'o'));
            Edge.is("not dirty by the same ends", true, own.isClean(c));
            MotionRig others = sixtyFour();
            others.setKey(c, layer, 0, 4, 'l');
            others.setKey(c, layer, 2, 12, 'l');
            for (int other = 0; other < 64; other++) {
                if (other != curve) {
                    Edge.is("'h' at first", 'h', others.extend(other / 4, other % 4, 'o', 'c'));
                }
            }
            Edge.is("not ahead by other ends", 4.0, others.valueAt(c, -1));
            Edge.is("not behind by other ends", 12.0, others.valueAt(c, 9));
        }
    }

    private static void fewKeys() {
        Edge.holds("Curves", "A curve with one key has its value everywhere, one without keys 0.");
        for (char end : "hco".toCharArray()) {
            for (int frame : new int[] {-100, 0, 100}) {
                MotionRig rig = House.curve('e', frame, -1000);
                rig.extend(0, 0, end, end);
                for (int time : new int[] {-400, -1, 0, 1, 4 * frame, 400}) {
                    Edge.is("one key at " + frame + ", at " + time, -1000.0, rig.valueAt(0, time));
                }
                rig.removeKey(0, 0, frame);
                for (int time : new int[] {-400, 0, 4 * frame, 400}) {
                    Edge.is("no key any more, at " + time, 0.0, rig.valueAt(0, time));
                }
            }
        }
        Edge.is("no key yet", 0.0, House.row("k").value(0));
    }

    private static void setting() {
        Edge.holds("Promise 4", "`channel`: the number of the channel", "`layer`: the number of the layer",
            "`frame`: the frame", "`value`: its value", "`kind`: its kind", "Returns the number of keys of the curve.");
        MotionRig rig = House.row("kkkkkkkkkkkkkkkk");
        rig.addLayer('+');
        rig.addLayer('+');
        rig.addLayer('+');
        for (int channel : new int[] {0, 1, 14, 15}) {
            for (int layer : new int[] {0, 1, 2, 3}) {
                Edge.is("a first key", 1, rig.setKey(channel, layer, -100, 16 * layer + channel, 's'));
                Edge.is("a second key", 2, rig.setKey(channel, layer, 100, -channel, 'e'));
                Edge.is("in place of it", 2, rig.setKey(channel, layer, 100, 1000, 'e'));
            }
        }
        for (int channel : new int[] {0, 1, 14, 15}) {
            Edge.is("each curve has its own keys", 48 + channel, rig.keyValue(channel, 3, 0));
            Edge.is("and the channel all of them", 96.0 + 4 * channel, rig.valueAt(channel, -400));
        }
    }

    private static void settingRefused() {
        Edge.holds("Promise 4", "Throws `IndexOutOfBoundsException` if there is no such channel or layer");
        Edge.refusedFor(House.NO_CHANNEL, Edge.INDEX, (rig, c) -> rig.setKey(c, 0, 0, 0, 's'));
        Edge.refusedFor(House.NO_LAYER, Edge.INDEX, (rig, layer) -> rig.setKey(0, layer, 0, 0, 's'));
        Edge.refused(() -> House.row("k"), "no layer but 0", Edge.INDEX, rig -> rig.setKey(0, 1, 0, 0, 's'));
        Edge.refused(MotionRig::new, "no channel at all", Edge.INDEX, rig -> rig.setKey(0, 0, 0, 0, 's'));
        Edge.holds("Promise 4", "Throws `IllegalArgumentException` if the frame or the value is out of range, or there "
            + "is no such kind");
        Edge.refusedFor(NO_FRAMES, Edge.ARGUMENT, (rig, frame) -> rig.setKey(1, 1, frame, 1000, 'l'));
        Edge.refusedFor(NO_VALUES, Edge.ARGUMENT, (rig, value) -> rig.setKey(1, 1, 100, value, 'l'));
        Edge.refusedBeside("sle", Edge.ARGUMENT, (rig, kind) -> rig.setKey(0, 0, 1, 7, kind));
        Edge.holds("Promise 4", "Throws `UnsupportedOperationException` if the channel is not of the kind 'k'");
        for (char kind : "t+-*%xnasrfcdp".toCharArray()) {
            Edge.refused(() -> House.row("k" + kind), "of the kind " + kind, Edge.UNSUPPORTED,
                rig -> rig.setKey(1, 0, 0, 0, 's'));
        }
        Edge.holds("Promise 4", "Throws `IllegalStateException` if it is the 21st key");
        for (int frame : new int[] {-100, 9, 30, 100}) {
            Edge.refused("the 21st at " + frame, Edge.STATE, rig -> rig.setKey(House.FULL, 0, frame, 0, 's'));
        }
        for (int frame : Edge.within(10, 29)) {
            Edge.is("in place of one", 20, House.furnished().setKey(House.FULL, 0, frame, 0, 's'));
        }
    }

    private static void settingOrder() {
        Edge.holds("Exceptions", "If several exceptions apply, the one that is documented first is thrown.");
        Edge.refused("setKey: no channel, no frame", Edge.INDEX, rig -> rig.setKey(7, 0, 101, 0, 's'));
        Edge.refused("setKey: no layer, no kind", Edge.INDEX, rig -> rig.setKey(0, 3, 0, 0, '?'));
        Edge.refused("setKey: no layer, no curve", Edge.INDEX, rig -> rig.setKey(2, 3, 0, 0, 's'));
        Edge.refused("setKey: no value, no curve", Edge.ARGUMENT, rig -> rig.setKey(2, 0, 0, 1001, 's'));
        Edge.refused("setKey: no frame, no curve", Edge.ARGUMENT, rig -> rig.setKey(2, 0, -101, 0, 's'));
        Edge.refused("setKey: no kind, no curve", Edge.ARGUMENT, rig -> rig.setKey(2, 0, 0, 0, 'x'));
        Edge.refused("setKey: no kind, full", Edge.ARGUMENT, rig -> rig.setKey(House.FULL, 0, 0, 0, 'x'));
        Edge.refused("setKey: no value, full", Edge.ARGUMENT, rig -> rig.setKey(House.FULL, 0, 0, -1001, 's'));
        Edge.refused("setKey: no frame, full", Edge.ARGUMENT, rig -> rig.setKey(House.FULL, 0, 101, 0, 's'));
        Edge.refused("setKey: no layer, full", Edge.INDEX, rig -> rig.setKey(House.FULL, 3, 0, 0, 's'));
        Edge.refused("removeKey: no layer, no key", Edge.INDEX, rig -> rig.removeKey(0, 3, 77));
        Edge.refused("removeKey: no channel, no key", Edge.INDEX, rig -> rig.removeKey(-1, 0, 77));
        Edge.refused("keyAt: no layer, no key", Edge.INDEX, rig -> rig.keyAt(0, 3, -1));
        Edge.refused("keyAt: no channel, no key", Edge.INDEX, rig -> rig.keyAt(7, 0, -1));
        Edge.refused("keyValue: no layer, no key", Edge.INDEX, rig -> rig.keyValue(0, 3, -1));
        Edge.refused("keyValue: no channel, no key", Edge.INDEX, rig -> rig.keyValue(7, 0, -1));
        Edge.refused("extend: no channel, no end", Edge.INDEX, rig -> rig.extend(7, 0, '?', 'h'));
        Edge.refused("extend: no layer, no end", Edge.INDEX, rig -> rig.extend(0, -1, 'h', '?'));
        Edge.refused("extend: no layer, no curve", Edge.INDEX, rig -> rig.extend(2, 3, 'h', 'h'));
        Edge.refused("extend: no end, no curve", Edge.ARGUMENT, rig -> rig.extend(2, 0, 'h', '?'));
        Edge.refused("extend: no end ahead, no curve", Edge.ARGUMENT, rig -> rig.extend(2, 0, '?', 'h'));
    }

    private static void removing() {
        Edge.holds("Promise 5", "`channel`: the number of the channel", "`layer`: the number of the layer",
            "`frame`: the frame", "Returns its value.");
        for (int value : Edge.within(-1000, 1000)) {
            MotionRig rig = House.curve('l', -100, value, 100, value, 0, value);
            Edge.is("at the frame 0", value, rig.removeKey(0, 0, 0));
            Edge.is("at the frame -100", value, rig.removeKey(0, 0, -100));
            Edge.is("at the frame 100", value, rig.removeKey(0, 0, 100));
            Edge.is("and once alone", "throws NoSuchElementException", () -> rig.removeKey(0, 0, 100));
        }
        for (char kind : "sle".toCharArray()) {
            for (int frame : Edge.within(-100, 100)) {
                MotionRig rig = House.curve(kind, frame, -1000);
                Edge.is("in place of it", 1, rig.setKey(0, 0, frame, 1000, kind));
                rig.undo();
                Edge.is("the least value at " + frame, -1000, rig.removeKey(0, 0, frame));
                Edge.is("none is left", 0, rig.keys(0, 0));
            }
        }
        MotionRig full = full(-100);
        for (int i = 19; i >= 0; i--) {
            Edge.is("of " + (i + 1), 0, full.removeKey(0, 0, -100 + i * 7 % 20));
            Edge.is("what is left", i, full.keys(0, 0));
        }
        Edge.holds("Promise 5", "Throws `IndexOutOfBoundsException` if there is no such channel or layer");
        Edge.refusedFor(House.NO_CHANNEL, Edge.INDEX, (rig, c) -> rig.removeKey(c, 0, 0));
        Edge.refusedFor(House.NO_LAYER, Edge.INDEX, (rig, layer) -> rig.removeKey(0, layer, 0));
        Edge.holds("Promise 5", "Throws `NoSuchElementException` if there is no such key");
        int[] frames = {1, -1, 7, -5, 50, 65536, -65536, -101, 101, Edge.LEAST_INT, Edge.MOST_INT};
        Edge.refusedFor(frames, java.util.NoSuchElementException.class, (rig, frame) -> rig.removeKey(0, 0, frame));
        Edge.refusedFor(new int[] {2, 3, 4, 5}, java.util.NoSuchElementException.class,
            (rig, c) -> rig.removeKey(c, 0, 0));
        Edge.refused("of another layer", java.util.NoSuchElementException.class, rig -> rig.removeKey(0, 0, 2));
        Edge.refused("of a curve without keys", java.util.NoSuchElementException.class, rig -> rig.removeKey(1, 2, 0));
    }

    private static void counting() {
        Edge.holds("Promise 6", "`channel`: the number of the channel", "`layer`: the number of the layer",
            "Returns the number of keys, 0 for other kinds.");
        MotionRig rig = House.row("kt+-*%xnasrfcdp");
        rig.addLayer('o');
        for (int c = 0; c < 15; c++) {
            Edge.is("none of channel " + c, 0, rig.keys(c, 0));
            Edge.is("none on the layer 1", 0, rig.keys(c, 1));
        }
        for (int i = 1; i <= 20; i++) {
            rig.setKey(0, 1, 50 - i, 0, 's');
            Edge.is("keys", i, rig.keys(0, 1));
        }
        Edge.is("and none on the layer 0", 0, rig.keys(0, 0));
        Edge.holds("Promise 6", "Throws `IndexOutOfBoundsException` if there is no such channel or layer");
        Edge.refusedFor(House.NO_CHANNEL, Edge.INDEX, (r, c) -> r.keys(c, 0));
        Edge.refusedFor(House.NO_LAYER, Edge.INDEX, (r, layer) -> r.keys(0, layer));
    }

    private static void reading() {
        MotionRig rig = House.curve('s', 100, -1000, -100, 1000, 0, 5);
        Edge.holds("Promise 7", "`channel`: the number of the channel", "`layer`: the number of the layer",
            "`index`: the index of the key, from 0", "Returns the frame.");
        Edge.is("the first one", -100, rig.keyAt(0, 0, 0));
        Edge.is("the next one", 0, rig.keyAt(0, 0, 1));
        Edge.is("the last one", 100, rig.keyAt(0, 0, 2));
        Edge.is("the last one of 20", 29, House.furnished().keyAt(House.FULL, 0, 19));
        Edge.holds("Promise 8", "`channel`: the number of the channel", "`layer`: the number of the layer",
            "`index`: the index of the key, from 0", "Returns the value.");
        Edge.is("the first one", 1000, rig.keyValue(0, 0, 0));
        Edge.is("the next one", 5, rig.keyValue(0, 0, 1));
        Edge.is("the last one", -1000, rig.keyValue(0, 0, 2));
        Edge.is("the last one of 20", 0, House.furnished().keyValue(House.FULL, 0, 19));
        Edge.is("nothing was run", 0, rig.runs());
    }

    private static void readingRefused() {
        Class<java.util.NoSuchElementException> element = java.util.NoSuchElementException.class;
        int[] indices = {3, -1, 19, 20, Edge.LEAST_INT, Edge.MOST_INT};
        int[] ofFull = {20, 21, -1, Edge.LEAST_INT, Edge.MOST_INT};
        Edge.holds("Promise 7", "Throws `IndexOutOfBoundsException` if there is no such channel or layer");
        Edge.refusedFor(House.NO_CHANNEL, Edge.INDEX, (rig, c) -> rig.keyAt(c, 0, 0));
        Edge.refusedFor(House.NO_LAYER, Edge.INDEX, (rig, layer) -> rig.keyAt(0, layer, 0));
        Edge.holds("Promise 7", "Throws `NoSuchElementException` if there is no such key");
        Edge.refusedFor(indices, element, (rig, index) -> rig.keyAt(0, 0, index));
        Edge.refusedFor(ofFull, element, (rig, index) -> rig.keyAt(House.FULL, 0, index));
        Edge.refused("without keys", element, rig -> rig.keyAt(0, 2, 0));
        Edge.refused("of another kind", element, rig -> rig.keyAt(2, 0, 0));
        Edge.holds("Promise 8", "Throws `IndexOutOfBoundsException` if there is no such channel or layer");
        Edge.refusedFor(House.NO_CHANNEL, Edge.INDEX, (rig, c) -> rig.keyValue(c, 0, 0));
        Edge.refusedFor(House.NO_LAYER, Edge.INDEX, (rig, layer) -> rig.keyValue(0, layer, 0));
        Edge.holds("Promise 8", "Throws `NoSuchElementException` if there is no such key");
        Edge.refusedFor(indices, element, (rig, index) -> rig.keyValue(0, 0, index));
        Edge.refusedFor(ofFull, element, (rig, index) -> rig.keyValue(House.FULL, 0, index));
        Edge.refused("without keys", element, rig -> rig.keyValue(0, 2, 0));
        Edge.refused("of another kind", element, rig -> rig.keyValue(2, 0, 0));
    }

    private static void extending() {
        Edge.holds("Promise 9", "`channel`: the number of the channel", "`layer`: the number of the layer",
            "`before`: 'h', 'c' or 'o' ahead of the first key", "`after`: the same behind the last one",
            "Returns the end ahead of the first key, as it was.");
        MotionRig rig = House.row("k");
        rig.addLayer('+');
        char before = 'h';
        for (char end : "choohcch".toCharArray()) {
            for (char after : "hco".toCharArray()) {
                Edge.is("as it was", before, rig.extend(0, 1, end, after));
                before = end;
            }
        }
        Edge.is("on another layer", 'h', rig.extend(0, 0, 'c', 'o'));
        Edge.is("behind does not tell", 'c', rig.extend(0, 0, 'h', 'c'));
        rig.setKey(0, 0, 0, 1, 's');
        rig.removeKey(0, 0, 0);
        rig.undo();
        Edge.is("keys and undoing leave it", 'h', rig.extend(0, 0, 'h', 'h'));
    }

    private static void extendingRefused() {
        Edge.holds("Promise 9", "Throws `IndexOutOfBoundsException` if there is no such channel or layer");
        Edge.refusedFor(House.NO_CHANNEL, Edge.INDEX, (rig, c) -> rig.extend(c, 0, 'o', 'c'));
        Edge.refusedFor(House.NO_LAYER, Edge.INDEX, (rig, layer) -> rig.extend(0, layer, 'o', 'c'));
        Edge.holds("Promise 9", "Throws `IllegalArgumentException` if there is no such end");
        Edge.refusedBeside("hco", Edge.ARGUMENT, (rig, end) -> rig.extend(0, 0, end, 'h'));
        Edge.refusedBeside("hco", Edge.ARGUMENT, (rig, end) -> rig.extend(0, 0, 'h', end));
        Edge.holds("Promise 9", "Throws `UnsupportedOperationException` if the channel is not of the kind 'k'");
        for (char kind : "t+-*%xnasrfcdp".toCharArray()) {
            Edge.refused(() -> House.row("k" + kind), "of the kind " + kind, Edge.UNSUPPORTED,
                rig -> rig.extend(1, 0, 'c', 'c'));
        }
    }

    private static void means() {
        Edge.holds("Promise 44", "Returns the number of keys divided by that of these curves, both converted to "
            + "double.");
        MotionRig rig = House.curve('s', 0, 0);
        Edge.is("one key", 1.0, rig.meanKeys());
        rig.addChannel('k', 0, 0, 0, 0);
        rig.addChannel('k', 0, 0, 0, 0);
        rig.addLayer('+');
        rig.setKey(1, 1, 0, 0, 's');
        rig.setKey(1, 1, 1, 0, 's');
        Edge.is("three keys, two curves", 1.5, rig.meanKeys());
        rig.setKey(2, 0, 0, 0, 's');
        Edge.is("four keys, three curves", 4.0 / 3.0, rig.meanKeys());
        MotionRig all = House.row("kkkkkkkkkkkkkkkk");
        for (int layer = 0; layer < 4; layer++) {
            for (int c = 0; c < 16; c++) {
                all.bake(c, layer, 0, 19);
            }
            Edge.is("all full", 20.0, all.meanKeys());
            Check.outcome(() -> all.addLayer('+'));
        }
        Edge.is("1280 keys", 1280, all.branch());
        Edge.holds("Promise 44", "Throws `ArithmeticException` if there are none");
        Edge.refused(MotionRig::new, "no channels", ArithmeticException.class, r -> r.meanKeys());
        Edge.refused(() -> House.row("kt"), "no keys", ArithmeticException.class, r -> r.meanKeys());
        rig.removeKey(0, 0, 0);
        rig.removeKey(1, 1, 0);
        rig.removeKey(1, 1, 1);
        Edge.is("one is left", 1.0, rig.meanKeys());
        rig.removeKey(2, 0, 0);
        Edge.is("none is left", "throws ArithmeticException", () -> rig.meanKeys());
        rig.undo();
        Edge.is("undone", 1.0, rig.meanKeys());
    }
}
