import java.util.ArrayList;
import java.util.HashMap;
import java.util.HashSet;
import java.util.List;
import java.util.Map;
import java.util.NoSuchElementException;
import java.util.Set;
import java.util.TreeMap;

/**
 * The document once more, in the plainest form: all is reckoned from nothing at each call, and undoing keeps
 * copies of all. It shares no line with the class, so that a slip is not likely to stand in both.
 */
final class Model {
    private static final String KINDS = "kt+-*%xnasrfcdp";
    private static final String TWO = "+-*%xn";
    private static final String ONE = "asrfcdp";

    static final class Channel {
        char kind;
        int[] in = new int[0];
        int first;
        int second;
        boolean clean;
        double value;
        char letter;
    }

    static final class Layer {
        char kind;
        boolean muted;
        Set<Integer> out = new HashSet<>();
    }

    static final class Key {
        final int value;
        final char kind;

        Key(int value, char kind) {
            this.value = value;
            this.kind = kind;
        }

        boolean same(Key other) {
            return other != null && value == other.value && kind == other.kind;
        }
    }

    static final class Bone {
        int parent;
        int length;
        int channel;
    }

    static final class Marker {
        int[] weights = new int[8];
        double x;
        double y;
    }

    /** Keys by 10000 * channel + 1000 * layer + frame + 100, and weights by layers. */
    static final class State {
        TreeMap<Integer, Key> keys = new TreeMap<>();
        TreeMap<Integer, Integer> weights = new TreeMap<>();

        State copy() {
            State s = new State();
            s.keys.putAll(keys);
            s.weights.putAll(weights);
            return s;
        }
    }

    final List<Channel> channels = new ArrayList<>();
    final List<Layer> layers = new ArrayList<>();
    final List<Bone> bones = new ArrayList<>();
    final List<Marker> markers = new ArrayList<>();
    final TreeMap<Integer, char[]> ends = new TreeMap<>();
    final TreeMap<Character, Integer> overrides = new TreeMap<>();
    final List<State> undos = new ArrayList<>();
    final List<State> redos = new ArrayList<>();
    State state = new State();
    TreeMap<Integer, Key> base;
    TreeMap<Integer, Key> wishes;
    final List<Integer> clashes = new ArrayList<>();
    int time;
    int ran;
    int refused;

    Model() {
        layers.add(new Layer());
    }

    private static int code(int channel, int layer, int frame) {
        return 10000 * channel + 1000 * layer + frame + 100;
    }

    private void needChannel(int c) {
        if (c < 0 || c >= channels.size()) {
            throw new IndexOutOfBoundsException();
        }
    }

    private void needLayer(int l) {
        if (l < 0 || l >= layers.size()) {
            throw new IndexOutOfBoundsException();
        }
    }

    private static void need(boolean fits) {
        if (!fits) {
            throw new IllegalArgumentException();
        }
    }

    private static boolean in(int x, int least, int most) {
        return x >= least && x <= most;
    }

    private static boolean one(String all, char c) {
        return all.indexOf(c) >= 0;
    }

    private void needCurved(int c) {
        if (channels.get(c).kind != 'k') {
            throw new UnsupportedOperationException();
        }
    }

    private TreeMap<Integer, Key> curve(int c, int l) {
        TreeMap<Integer, Key> curve = new TreeMap<>();
        for (Map.Entry<Integer, Key> e : state.keys.entrySet()) {
            if (e.getKey() / 1000 == 10 * c + l) {
                curve.put(e.getKey() % 1000 - 100, e.getValue());
            }
        }
        return curve;
    }

    private boolean depends(int a, int b) {
        for (int i : channels.get(a).in) {
            if (i == b || depends(i, b)) {
                return true;
            }
        }
        return false;
    }

    private void dirty(int c) {
        for (int i = 0; i < channels.size(); i++) {
            if (i == c || depends(i, c)) {
                channels.get(i).clean = false;
            }
        }
    }

    private void dirtyCurved() {
        for (int i = 0; i < channels.size(); i++) {
            if (channels.get(i).kind == 'k') {
                dirty(i);
            }
        }
    }

    private void dirtyByKeys(State before) {
        Set<Integer> all = new HashSet<>(before.keys.keySet());
        all.addAll(state.keys.keySet());
        for (int k : all) {
            Key a = before.keys.get(k);
            Key b = state.keys.get(k);
            if (a == null || b == null || !a.same(b)) {
                dirty(k / 10000);
            }
        }
        for (int l = 1; l < layers.size(); l++) {
            if (weight(before, l) != weight(state, l)) {
                dirtyCurved();
            }
        }
    }

    private static int weight(State s, int l) {
        return s.weights.containsKey(l) ? s.weights.get(l) : 100;
    }

    private boolean same(State a, State b) {
        if (!a.keys.keySet().equals(b.keys.keySet())) {
            return false;
        }
        for (int k : a.keys.keySet()) {
            if (!a.keys.get(k).same(b.keys.get(k))) {
                return false;
            }
        }
        for (int l = 1; l < 4; l++) {
            if (weight(a, l) != weight(b, l)) {
                return false;
            }
        }
        return true;
    }

    private void edited(State before) {
        if (same(before, state)) {
            return;
        }
        dirtyByKeys(before);
        undos.add(before);
        if (undos.size() > 20) {
            undos.remove(0);
        }
        redos.clear();
    }

    private static double bounded(double x) {
        return Math.max(-1e9, Math.min(1e9, x)) + 0.0;
    }

    private static double curveAt(TreeMap<Integer, Key> k, char[] ends, double t) {
        if (k.isEmpty()) {
            return 0.0;
        }
        double first = k.firstKey();
        double last = k.lastKey();
        double a = k.firstEntry().getValue().value;
        double b = k.lastEntry().getValue().value;
        if (k.size() == 1) {
            return a;
        }
        if (t < first || t > last) {
            char end = t < first ? ends[0] : ends[1];
            if (end == 'h') {
                return t < first ? a : b;
            }
            double n = Math.floor((t - first) / (last - first));
            double c = curveAt(k, ends, first + (t - first - n * (last - first)));
            return end == 'c' ? c : c + n * (b - a);
        }
        if (t == last) {
            return b;
        }
        Map.Entry<Integer, Key> e = k.floorEntry((int) Math.floor(t));
        Map.Entry<Integer, Key> g = k.higherEntry(e.getKey());
        double u = (t - e.getKey()) / (double) (g.getKey() - e.getKey());
        double p = e.getValue().value;
        double q = g.getValue().value;
        switch (e.getValue().kind) {
            case 's':
                return p;
            case 'l':
                return p + (q - p) * u;
            default:
                return p + (q - p) * (u * u * (3.0 - 2.0 * u));
        }
    }

    private double mixed(int c, double t) {
        double v = 0.0;
        for (int l = 0; l < layers.size(); l++) {
            Layer y = layers.get(l);
            TreeMap<Integer, Key> k = curve(c, l);
            char[] e = ends.getOrDefault(10 * c + l, new char[] {'h', 'h'});
            if (l == 0) {
                v = curveAt(k, e, t);
            } else if (!y.muted && !y.out.contains(c) && !k.isEmpty()) {
                double w = weight(state, l) / 100.0;
                double x = curveAt(k, e, t);
                v = y.kind == '+' ? v + w * x : v * (1.0 - w) + w * x;
            }
        }
        return v;
    }

    private static double operated(char kind, double a, double b) {
        switch (kind) {
            case '+':
                return a + b;
            case '-':
                return a - b;
            case '*':
                return a * b;
            case '%':
                return b == 0.0 ? 0.0 : a % b;
            case 'x':
                return Math.max(a, b);
            case 'n':
                return Math.min(a, b);
            case 'a':
                return Math.abs(a);
            case 's':
                return Math.signum(a);
            case 'r':
                return Math.rint(a);
            case 'f':
                return Math.floor(a);
            case 'c':
                return Math.ceil(a);
            default:
                throw new AssertionError();
        }
    }

    private double reckon(int c, int t, HashMap<Integer, Double> seen) {
        Double was = seen.get(c * 1000 + t + 400);
        if (was != null) {
            return was;
        }
        Channel x = channels.get(c);
        double v;
        if (x.letter != 0 && overrides.containsKey(x.letter)) {
            v = overrides.get(x.letter);
        } else if (x.kind == 'k') {
            v = mixed(c, t / 4.0);
        } else if (x.kind == 't') {
            v = t / 4.0;
        } else if (x.kind == 'd') {
            v = reckon(x.in[0], Math.max(-400, t - x.first), seen);
        } else if (x.kind == 'p') {
            v = spring(x, t, seen);
        } else {
            v = operated(x.kind, reckon(x.in[0], t, seen), x.in.length > 1 ? reckon(x.in[1], t, seen) : 0.0);
        }
        v = bounded(v);
        seen.put(c * 1000 + t + 400, v);
        return v;
    }

    private double spring(Channel x, int t, HashMap<Integer, Double> seen) {
        int f = (int) Math.floor(t / 4.0);
        if (f < 0) {
            return reckon(x.in[0], t, seen);
        }
        double place = reckon(x.in[0], 0, seen);
        double speed = 0.0;
        double k = x.first / 8.0;
        double d = x.second / 8.0;
        double at = place;
        for (int i = 1; i <= f + 1 && i <= 100; i++) {
            at = i - 1 == f ? place : at;
            double v = reckon(x.in[0], 4 * i, seen);
            double s = bounded(speed + (v - place) * k - speed * d);
            if (i <= f || t != 4 * f) {
                place = bounded(place + s);
                speed = s;
            }
        }
        return t == 4 * f ? place : at + (place - at) * (t / 4.0 - f);
    }

    private double ask(int c) {
        Channel x = channels.get(c);
        if (!x.clean) {
            boolean over = x.letter != 0 && overrides.containsKey(x.letter);
            if (!over && x.kind != 'd' && x.kind != 'p') {
                for (int i : x.in) {
                    ask(i);
                }
            }
            x.value = reckon(c, time, new HashMap<>());
            x.clean = true;
            ran++;
        }
        return x.value;
    }

    int addChannel(char kind, int a, int b, int first, int second) {
        need(one(KINDS, kind));
        need(kind != 'd' || in(first, 1, 100));
        need(kind != 'p' || in(first, 1, 8) && in(second, 0, 8));
        if (one(TWO, kind) || one(ONE, kind)) {
            needChannel(a);
        }
        if (one(TWO, kind)) {
            needChannel(b);
        }
        if (channels.size() == 16) {
            throw new IllegalStateException();
        }
        Channel c = new Channel();
        c.kind = kind;
        c.in = one(TWO, kind) ? new int[] {a, b} : one(ONE, kind) ? new int[] {a} : new int[0];
        c.first = first;
        c.second = second;
        channels.add(c);
        return channels.size() - 1;
    }

    int rejoin(int channel, int which, int other) {
        needChannel(channel);
        needChannel(other);
        need(in(which, 0, channels.get(channel).in.length - 1));
        if (other == channel || depends(other, channel)) {
            throw new UnsupportedOperationException();
        }
        int before = channels.get(channel).in[which];
        if (before != other) {
            dirty(channel);
            channels.get(channel).in[which] = other;
        }
        return before;
    }

    int setKey(int channel, int layer, int frame, int value, char kind) {
        needChannel(channel);
        needLayer(layer);
        need(in(frame, -100, 100) && in(value, -1000, 1000) && one("sle", kind));
        needCurved(channel);
        if (curve(channel, layer).size() == 20 && !curve(channel, layer).containsKey(frame)) {
            throw new IllegalStateException();
        }
        State before = state.copy();
        state.keys.put(code(channel, layer, frame), new Key(value, kind));
        edited(before);
        return curve(channel, layer).size();
    }

    int removeKey(int channel, int layer, int frame) {
        needChannel(channel);
        needLayer(layer);
        Key k = curve(channel, layer).get(frame);
        if (k == null) {
            throw new NoSuchElementException();
        }
        State before = state.copy();
        state.keys.remove(code(channel, layer, frame));
        edited(before);
        return k.value;
    }

    int keys(int channel, int layer) {
        needChannel(channel);
        needLayer(layer);
        return curve(channel, layer).size();
    }

    int keyAt(int channel, int layer, int index) {
        List<Integer> frames = new ArrayList<>();
        needChannel(channel);
        needLayer(layer);
        frames.addAll(curve(channel, layer).keySet());
        if (index < 0 || index >= frames.size()) {
            throw new NoSuchElementException();
        }
        return frames.get(index);
    }

    int keyValue(int channel, int layer, int index) {
        return curve(channel, layer).get(keyAt(channel, layer, index)).value;
    }

    char extend(int channel, int layer, char before, char after) {
        needChannel(channel);
        needLayer(layer);
        need(one("hco", before) && one("hco", after));
        needCurved(channel);
        char[] was = ends.getOrDefault(10 * channel + layer, new char[] {'h', 'h'});
        if (was[0] != before || was[1] != after) {
            dirty(channel);
        }
        ends.put(10 * channel + layer, new char[] {before, after});
        return was[0];
    }

    int addLayer(char kind) {
        need(one("+o", kind));
        if (layers.size() == 4) {
            throw new IllegalStateException();
        }
        Layer l = new Layer();
        l.kind = kind;
        layers.add(l);
        return layers.size() - 1;
    }

    private void needUpper(int layer) {
        needLayer(layer);
        if (layer == 0) {
            throw new IndexOutOfBoundsException();
        }
    }

    int weigh(int layer, int weight) {
        needUpper(layer);
        need(in(weight, 0, 100));
        State before = state.copy();
        state.weights.put(layer, weight);
        edited(before);
        return weight(before, layer);
    }

    boolean mute(int layer, boolean is) {
        needUpper(layer);
        boolean was = layers.get(layer).muted;
        if (was != is) {
            dirtyCurved();
        }
        layers.get(layer).muted = is;
        return was;
    }

    boolean leaveOut(int layer, int channel, boolean is) {
        needUpper(layer);
        needChannel(channel);
        boolean was = layers.get(layer).out.contains(channel);
        if (was != is) {
            dirtyCurved();
        }
        if (is) {
            layers.get(layer).out.add(channel);
        } else {
            layers.get(layer).out.remove(channel);
        }
        return was;
    }

    int setTime(int to) {
        need(in(to, -400, 400));
        int was = time;
        if (was != to) {
            for (Channel c : channels) {
                c.clean = false;
            }
        }
        time = to;
        return was;
    }

    double value(int channel) {
        needChannel(channel);
        return ask(channel);
    }

    double valueAt(int channel, int at) {
        needChannel(channel);
        need(in(at, -400, 400));
        return reckon(channel, at, new HashMap<>());
    }

    float phase(int channel, int lap) {
        needChannel(channel);
        need(in(lap, 1, 1000));
        return (float) ask(channel) % (float) lap;
    }

    long whole(int channel) {
        needChannel(channel);
        return (long) (float) ask(channel);
    }

    boolean isClean(int channel) {
        needChannel(channel);
        return channels.get(channel).clean;
    }

    int runs() {
        return ran;
    }

    int addBone(int parent, int length, int channel) {
        if (!in(parent, -1, bones.size() - 1)) {
            throw new IndexOutOfBoundsException();
        }
        needChannel(channel);
        need(in(length, 1, 100));
        if (bones.size() == 8) {
            throw new IllegalStateException();
        }
        Bone b = new Bone();
        b.parent = parent;
        b.length = length;
        b.channel = channel;
        bones.add(b);
        return bones.size() - 1;
    }

    private void needBone(int bone) {
        if (bone < 0 || bone >= bones.size()) {
            throw new IndexOutOfBoundsException();
        }
    }

    private int heading(int bone) {
        Bone b = bones.get(bone);
        double turn = Math.rint(ask(b.channel));
        int eighths = (int) (((turn % 8.0) + 8.0) % 8.0);
        return b.parent < 0 ? eighths : (heading(b.parent) + eighths) % 8;
    }

    private static double cosine(int eighth) {
        int[] all = {64, 45, 0, -45, -64, -45, 0, 45};
        return all[eighth];
    }

    private static double[] end(double[] begin, int length, int heading) {
        return new double[] {begin[0] + length * cosine(heading) / 64.0,
            begin[1] + length * cosine((heading + 6) % 8) / 64.0};
    }

    private double[] tips(int bone) {
        Bone b = bones.get(bone);
        double[] begin = b.parent < 0 ? new double[] {0.0, 0.0} : tips(b.parent);
        return end(begin, b.length, heading(bone));
    }

    int direction(int bone) {
        needBone(bone);
        return heading(bone);
    }

    double tip(int bone, boolean isX) {
        needBone(bone);
        return tips(bone)[isX ? 0 : 1];
    }

    int addMarker() {
        if (markers.size() == 4) {
            throw new IllegalStateException();
        }
        markers.add(new Marker());
        return markers.size() - 1;
    }

    private double[] where(Marker m) {
        int all = 0;
        for (int w : m.weights) {
            all += w;
        }
        double x = 0.0;
        double y = 0.0;
        for (int i = 0; i < bones.size(); i++) {
            if (m.weights[i] != 0) {
                double[] t = tips(i);
                x += t[0] * m.weights[i] / all;
                y += t[1] * m.weights[i] / all;
            }
        }
        return new double[] {m.x + x, m.y + y};
    }

    private void needMarker(int marker) {
        if (marker < 0 || marker >= markers.size()) {
            throw new IndexOutOfBoundsException();
        }
    }

    int follow(int marker, int bone, int weight) {
        needMarker(marker);
        needBone(bone);
        need(in(weight, 0, 9));
        Marker m = markers.get(marker);
        int was = m.weights[bone];
        if (was != weight) {
            double[] stood = where(m);
            m.weights[bone] = weight;
            m.x = 0.0;
            m.y = 0.0;
            double[] then = where(m);
            m.x = stood[0] - then[0];
            m.y = stood[1] - then[1];
        }
        return was;
    }

    double place(int marker, boolean isX) {
        needMarker(marker);
        return where(markers.get(marker))[isX ? 0 : 1];
    }

    int reach(int bone, int x, int y) {
        needBone(bone);
        need(in(x, -1000, 1000) && in(y, -1000, 1000));
        Bone own = bones.get(bone);
        if (own.parent < 0) {
            throw new UnsupportedOperationException();
        }
        Bone up = bones.get(own.parent);
        if (own.channel == up.channel) {
            throw new UnsupportedOperationException();
        }
        needCurved(own.channel);
        needCurved(up.channel);
        for (int i = up.parent; i >= 0; i = bones.get(i).parent) {
            if (bones.get(i).channel == own.channel || bones.get(i).channel == up.channel) {
                throw new UnsupportedOperationException();
            }
        }
        int frame = (int) Math.floor(time / 4.0);
        for (int c : new int[] {own.channel, up.channel}) {
            if (curve(c, 0).size() == 20 && !curve(c, 0).containsKey(frame)) {
                throw new IllegalStateException();
            }
        }
        int turn = up.parent < 0 ? 0 : heading(up.parent);
        double[] begin = up.parent < 0 ? new double[] {0.0, 0.0} : tips(up.parent);
        int best = -1;
        double least = Double.MAX_VALUE;
        for (int p = 0; p < 8; p++) {
            for (int o = 0; o < 8; o++) {
                double[] at = end(end(begin, up.length, (turn + p) % 8), own.length, (turn + p + o) % 8);
                double far = (x - at[0]) * (x - at[0]) + (y - at[1]) * (y - at[1]);
                if (far < least) {
                    least = far;
                    best = 8 * p + o;
                }
            }
        }
        State before = state.copy();
        state.keys.put(code(up.channel, 0, frame), new Key(best / 8, 's'));
        state.keys.put(code(own.channel, 0, frame), new Key(best % 8, 's'));
        edited(before);
        return best;
    }

    int bake(int channel, int layer, int from, int to) {
        needChannel(channel);
        needLayer(layer);
        need(in(from, -100, 100) && in(to, -100, 100) && from <= to);
        needCurved(channel);
        Set<Integer> frames = new HashSet<>(curve(channel, layer).keySet());
        for (int f = from; f <= to; f++) {
            frames.add(f);
        }
        if (frames.size() > 20) {
            throw new IllegalStateException();
        }
        State before = state.copy();
        State after = state.copy();
        for (int f = from; f <= to; f++) {
            double v = Math.rint(valueAt(channel, 4 * f));
            after.keys.put(code(channel, layer, f), new Key((int) Math.max(-1000, Math.min(1000, v)), 'l'));
        }
        state = after;
        edited(before);
        return frames.size();
    }

    int thin(int channel, int layer, int bound) {
        needChannel(channel);
        needLayer(layer);
        need(in(bound, 0, 1000));
        needCurved(channel);
        State before = state.copy();
        int gone = 0;
        for (int f : new ArrayList<>(curve(channel, layer).keySet())) {
            TreeMap<Integer, Key> now = curve(channel, layer);
            if (f == now.firstKey() || f == now.lastKey()) {
                continue;
            }
            Map.Entry<Integer, Key> a = now.lowerEntry(f);
            Map.Entry<Integer, Key> b = now.higherEntry(f);
            double u = (double) (f - a.getKey()) / (double) (b.getKey() - a.getKey());
            double p = a.getValue().value;
            double q = b.getValue().value;
            if (Math.abs(p + (q - p) * u - now.get(f).value) <= bound) {
                state.keys.remove(code(channel, layer, f));
                gone++;
            }
        }
        edited(before);
        return gone;
    }

    private boolean moved(List<State> from, List<State> to) {
        if (from.isEmpty()) {
            return false;
        }
        State before = state;
        to.add(before);
        state = from.remove(from.size() - 1).copy();
        dirtyByKeys(before);
        return true;
    }

    boolean undo() {
        return moved(undos, redos);
    }

    boolean redo() {
        return moved(redos, undos);
    }

    private int owner(char letter) {
        for (int i = 0; i < channels.size(); i++) {
            if (channels.get(i).letter == letter) {
                return i;
            }
        }
        return -1;
    }

    boolean name(int channel, char letter) {
        needChannel(channel);
        need(in(letter, 'a', 'z'));
        if (owner(letter) >= 0 && owner(letter) != channel) {
            throw new UnsupportedOperationException();
        }
        char was = channels.get(channel).letter;
        channels.get(channel).letter = letter;
        if (overrides.containsKey(was) || overrides.containsKey(letter)) {
            dirty(channel);
        }
        return was != 0;
    }

    int override(char letter, int value) {
        need(in(letter, 'a', 'z') && in(value, -1000, 1000));
        overrides.put(letter, value);
        if (owner(letter) >= 0) {
            dirty(owner(letter));
        }
        return overrides.size();
    }

    int dropOverride(char letter) {
        if (!overrides.containsKey(letter)) {
            throw new NoSuchElementException();
        }
        if (owner(letter) >= 0) {
            dirty(owner(letter));
        }
        return overrides.remove(letter);
    }

    int orphans() {
        int n = 0;
        for (char c : overrides.keySet()) {
            n += owner(c) < 0 ? 1 : 0;
        }
        return n;
    }

    int branch() {
        if (base != null) {
            throw new IllegalStateException();
        }
        base = new TreeMap<>(state.keys);
        wishes = new TreeMap<>();
        return base.size();
    }

    int wish(int channel, int layer, int frame, int value, char kind) {
        needChannel(channel);
        needLayer(layer);
        need(in(frame, -100, 100));
        need(one("slex", kind));
        need(kind == 'x' || in(value, -1000, 1000));
        needCurved(channel);
        int at = code(channel, layer, frame);
        if (base == null || wishes.size() == 40 && !wishes.containsKey(at)) {
            throw new IllegalStateException();
        }
        wishes.put(at, kind == 'x' ? new Key(0, 'x') : new Key(value, kind));
        return wishes.size();
    }

    private static boolean alike(Key a, Key b) {
        return a == null ? b == null : a.same(b);
    }

    int merge() {
        if (base == null) {
            throw new IllegalStateException();
        }
        State before = state.copy();
        int taken = 0;
        clashes.clear();
        for (Map.Entry<Integer, Key> e : wishes.entrySet()) {
            int at = e.getKey();
            Key now = state.keys.get(at);
            Key want = e.getValue().kind == 'x' ? null : e.getValue();
            if (!alike(now, base.get(at)) && !alike(now, want)) {
                clashes.add(at);
            } else if (now == null && want != null && curve(at / 10000, at / 1000 % 10).size() == 20) {
                clashes.add(at);
            } else {
                taken++;
                if (want == null) {
                    state.keys.remove(at);
                } else {
                    state.keys.put(at, want);
                }
            }
        }
        base = null;
        wishes = null;
        edited(before);
        return taken;
    }

    int conflicts() {
        return clashes.size();
    }

    int conflictAt(int index) {
        if (index < 0 || index >= clashes.size()) {
            throw new NoSuchElementException();
        }
        return clashes.get(index);
    }

    int tell(boolean isHeld, boolean isAll) {
        refused += isHeld ? 0 : 1;
        return refused;
    }

    boolean isPlayed(int channel, int from, int to) {
        needChannel(channel);
        need(in(from, -400, 400) && in(to, -400, 400) && in(to - from, 0, 40));
        int was = time;
        boolean same = true;
        for (int t = from; t <= to; t++) {
            setTime(t);
            same &= value(channel) == valueAt(channel, t);
        }
        setTime(was);
        return same;
    }

    float cleanShare() {
        int n = 0;
        for (Channel c : channels) {
            n += c.clean ? 1 : 0;
        }
        if (channels.isEmpty()) {
            throw new ArithmeticException();
        }
        return (float) n / (float) channels.size();
    }

    double meanKeys() {
        Set<Integer> curves = new HashSet<>();
        for (int k : state.keys.keySet()) {
            curves.add(k / 1000);
        }
        if (curves.isEmpty()) {
            throw new ArithmeticException();
        }
        return (double) state.keys.size() / (double) curves.size();
    }
}
