import java.util.Arrays;
import java.util.NoSuchElementException;

/** A rig for moving figures; ../shared/DOC.md says what each call answers. */
public final class MotionRig {
    private static final int LEAST_TIME = -400;
    private static final int LAST_TIME = 400;
    private static final int LEAST_FRAME = -100;
    private static final int LAST_FRAME = 100;
    private static final int MOST_VALUE = 1000;
    private static final int MOST_PLAYED = 40;

    private final Channels channels;
    private final Layers layers;
    private final Sheet sheet;
    private final History history;
    private final Names names;
    private final Reckoner fresh;
    private final Stage stage;
    private final Bones bones;
    private final Markers markers;
    private final Fork fork;
    private final int[] bakedValues;
    private int refusals;

    public MotionRig() {
        channels = new Channels();
        layers = new Layers();
        sheet = new Sheet();
        history = new History();
        names = new Names();
        fresh = new Reckoner(channels, layers, sheet, names);
        stage = new Stage(channels, names, new Reckoner(channels, layers, sheet, names));
        bones = new Bones(stage);
        markers = new Markers(bones);
        fork = new Fork();
        bakedValues = new int[Sheet.CURVE_KEYS];
    }

    public int addChannel(char kind, int a, int b, int first, int second)
            throws IllegalArgumentException, IndexOutOfBoundsException, IllegalStateException {
        if (!Channels.isKind(kind) || !Channels.fitsNumbers(kind, first, second)) {
            throw new IllegalArgumentException();
        }
        int inputs = Channels.inputsOf(kind);
        if (inputs > 0) {
            requireChannel(a);
        }
        if (inputs > 1) {
            requireChannel(b);
        }
        if (channels.isFull()) {
            throw new IllegalStateException();
        }
        return channels.append(kind, a, b, first, second);
    }

    public int rejoin(int channel, int which, int other)
            throws IndexOutOfBoundsException, IllegalArgumentException, UnsupportedOperationException {
        requireChannel(channel);
        requireChannel(other);
        if (which < 0 || which >= Channels.inputsOf(channels.kind(channel))) {
            throw new IllegalArgumentException();
        }
        if ((channels.withDependents(1 << channel) >> other & 1) == 1) {
            throw new UnsupportedOperationException();
        }
        int before = channels.input(channel, which);
        if (before != other) {
            channels.join(channel, which, other);
            stage.spoil(1 << channel);
        }
        return before;
    }

    public int setKey(int channel, int layer, int frame, int value, char kind)
            throws IndexOutOfBoundsException, IllegalArgumentException, UnsupportedOperationException,
            IllegalStateException {
        requireCurve(channel, layer);
        if (!isFrame(frame) || !isWithin(value, MOST_VALUE) || !Sheet.isKeyKind(kind)) {
            throw new IllegalArgumentException();
        }
        requireCurved(channel);
        int curve = Sheet.curve(channel, layer);
        if (!sheet.hasRoom(curve, frame)) {
            throw new IllegalStateException();
        }
        sheet.put(curve, Sheet.packed(frame, value, kind));
        settle();
        return sheet.size(curve);
    }

    public int removeKey(int channel, int layer, int frame)
            throws IndexOutOfBoundsException, NoSuchElementException {
        requireCurve(channel, layer);
        int curve = Sheet.curve(channel, layer);
        int key = sheet.keyOn(curve, frame);
        if (key == 0) {
            throw new NoSuchElementException();
        }
        sheet.drop(curve, frame);
        settle();
        return Sheet.valueOf(key);
    }

    public int keys(int channel, int layer) throws IndexOutOfBoundsException {
        requireCurve(channel, layer);
        return sheet.size(Sheet.curve(channel, layer));
    }

    public int keyAt(int channel, int layer, int index) throws IndexOutOfBoundsException, NoSuchElementException {
        return Sheet.frameOf(requiredKey(channel, layer, index));
    }

    public int keyValue(int channel, int layer, int index) throws IndexOutOfBoundsException, NoSuchElementException {
        return Sheet.valueOf(requiredKey(channel, layer, index));
    }

    public char extend(int channel, int layer, char before, char after)
            throws IndexOutOfBoundsException, IllegalArgumentException, UnsupportedOperationException {
        requireCurve(channel, layer);
        if (!Layers.isEnd(before) || !Layers.isEnd(after)) {
            throw new IllegalArgumentException();
        }
        requireCurved(channel);
        int curve = Sheet.curve(channel, layer);
        char was = layers.endBefore(curve);
        if (layers.setEnds(curve, before, after)) {
            stage.spoil(1 << channel);
        }
        return was;
    }

    public int addLayer(char kind) throws IllegalArgumentException, IllegalStateException {
        if (!Layers.isLayerKind(kind)) {
            throw new IllegalArgumentException();
        }
        if (layers.isFull()) {
            throw new IllegalStateException();
        }
        return layers.append(kind);
    }

    public int weigh(int layer, int weight) throws IndexOutOfBoundsException, IllegalArgumentException {
        requireUpperLayer(layer);
        if (weight < 0 || weight > 100) {
            throw new IllegalArgumentException();
        }
        int before = sheet.weight(layer);
        sheet.setWeight(layer, weight);
        settle();
        return before;
    }

    public boolean mute(int layer, boolean is) throws IndexOutOfBoundsException {
        requireUpperLayer(layer);
        boolean was = layers.isMuted(layer);
        if (was != is) {
            layers.setMuted(layer, is);
            stage.spoil(channels.curvedOnes());
        }
        return was;
    }

    public boolean leaveOut(int layer, int channel, boolean is) throws IndexOutOfBoundsException {
        requireUpperLayer(layer);
        requireChannel(channel);
        boolean was = layers.isLeftOut(layer, channel);
        if (was != is) {
            layers.setLeftOut(layer, channel, is);
            stage.spoil(channels.curvedOnes());
        }
        return was;
    }

    public int setTime(int time) throws IllegalArgumentException {
        if (!isTime(time)) {
            throw new IllegalArgumentException();
        }
        int before = stage.now();
        stage.goTo(time);
        return before;
    }

    public double value(int channel) throws IndexOutOfBoundsException {
        requireChannel(channel);
        return stage.asked(channel, 0);
    }

    public double valueAt(int channel, int time) throws IndexOutOfBoundsException, IllegalArgumentException {
        requireChannel(channel);
        if (!isTime(time)) {
            throw new IllegalArgumentException();
        }
        fresh.forget(Channels.ALL);
        return fresh.reckoned(channel, time, 0);
    }

    public float phase(int channel, int lap) throws IndexOutOfBoundsException, IllegalArgumentException {
        requireChannel(channel);
        if (lap < 1 || lap > 1000) {
            throw new IllegalArgumentException();
        }
        float shown = (float) stage.asked(channel, 0);
        return (float) Numbers.remainder((double) shown, (double) lap);
    }

    public long whole(int channel) throws IndexOutOfBoundsException {
        requireChannel(channel);
        return (long) (float) stage.asked(channel, 0);
    }

    public boolean isClean(int channel) throws IndexOutOfBoundsException {
        requireChannel(channel);
        return stage.isSettled(channel);
    }

    public int runs() {
        return stage.runCount();
    }

    public int addBone(int parent, int length, int channel)
            throws IndexOutOfBoundsException, IllegalArgumentException, IllegalStateException {
        if (parent != Bones.NONE && !bones.has(parent)) {
            throw new IndexOutOfBoundsException();
        }
        requireChannel(channel);
        if (length < 1 || length > 100) {
            throw new IllegalArgumentException();
        }
        if (bones.isFull()) {
            throw new IllegalStateException();
        }
        return bones.append(parent, length, channel);
    }

    public int direction(int bone) throws IndexOutOfBoundsException {
        requireBone(bone);
        bones.walk(bone);
        return bones.heading();
    }

    public double tip(int bone, boolean isX) throws IndexOutOfBoundsException {
        requireBone(bone);
        bones.walk(bone);
        return isX ? bones.tipX() : bones.tipY();
    }

    public int addMarker() throws IllegalStateException {
        if (markers.isFull()) {
            throw new IllegalStateException();
        }
        return markers.append();
    }

    public int follow(int marker, int bone, int weight) throws IndexOutOfBoundsException, IllegalArgumentException {
        requireMarker(marker);
        requireBone(bone);
        if (weight < 0 || weight > 9) {
            throw new IllegalArgumentException();
        }
        int before = markers.weight(marker, bone);
        if (before != weight) {
            markers.locate(marker);
            double x = markers.spotX(marker);
            double y = markers.spotY(marker);
            markers.setWeight(marker, bone, weight);
            markers.locate(marker);
            markers.hold(marker, x, y);
        }
        return before;
    }

    public double place(int marker, boolean isX) throws IndexOutOfBoundsException {
        requireMarker(marker);
        markers.locate(marker);
        return isX ? markers.spotX(marker) : markers.spotY(marker);
    }

    public int reach(int bone, int x, int y)
            throws IndexOutOfBoundsException, IllegalArgumentException, UnsupportedOperationException,
            IllegalStateException {
        requireBone(bone);
        if (!isWithin(x, MOST_VALUE) || !isWithin(y, MOST_VALUE)) {
            throw new IllegalArgumentException();
        }
        int parent = bones.parent(bone);
        if (parent == Bones.NONE || !isLimb(bone, parent)) {
            throw new UnsupportedOperationException();
        }
        int upper = Sheet.curve(bones.turner(parent), 0);
        int lower = Sheet.curve(bones.turner(bone), 0);
        int frame = Math.floorDiv(stage.now(), 4);
        if (!sheet.hasRoom(upper, frame) || !sheet.hasRoom(lower, frame)) {
            throw new IllegalStateException();
        }
        int turns = bones.bestTurns(bone, x, y);
        sheet.put(upper, Sheet.packed(frame, turns / 8, 's'));
        sheet.put(lower, Sheet.packed(frame, turns % 8, 's'));
        settle();
        return turns;
    }

    public int bake(int channel, int layer, int from, int to)
            throws IndexOutOfBoundsException, IllegalArgumentException, UnsupportedOperationException,
            IllegalStateException {
        requireCurve(channel, layer);
        if (!isFrame(from) || !isFrame(to) || to < from) {
            throw new IllegalArgumentException();
        }
        requireCurved(channel);
        int curve = Sheet.curve(channel, layer);
        int width = to - from + 1;
        if (sheet.sizeOutside(curve, from, to) + width > Sheet.CURVE_KEYS) {
            throw new IllegalStateException();
        }
        readBaked(channel, from, width);
        for (int i = 0; i < width; i++) {
            sheet.put(curve, Sheet.packed(from + i, bakedValues[i], 'l'));
        }
        settle();
        return sheet.size(curve);
    }

    public int thin(int channel, int layer, int bound)
            throws IndexOutOfBoundsException, IllegalArgumentException, UnsupportedOperationException {
        requireCurve(channel, layer);
        if (bound < 0 || bound > 1000) {
            throw new IllegalArgumentException();
        }
        requireCurved(channel);
        int dropped = sheet.dropNearLine(Sheet.curve(channel, layer), bound);
        settle();
        return dropped;
    }

    public boolean undo() {
        return moveInHistory(-1);
    }

    public boolean redo() {
        return moveInHistory(1);
    }

    public boolean name(int channel, char letter)
            throws IndexOutOfBoundsException, IllegalArgumentException, UnsupportedOperationException {
        requireChannel(channel);
        if (!Names.isLetter(letter)) {
            throw new IllegalArgumentException();
        }
        int owner = names.owner(letter);
        if (owner != Names.NONE && owner != channel) {
            throw new UnsupportedOperationException();
        }
        boolean hadName = names.hasLetter(channel);
        boolean wasOverridden = names.isOverridden(channel);
        names.give(channel, letter);
        if (wasOverridden || names.isOverridden(channel)) {
            stage.spoil(1 << channel);
        }
        return hadName;
    }

    public int override(char letter, int value) throws IllegalArgumentException {
        if (!Names.isLetter(letter) || !isWithin(value, MOST_VALUE)) {
            throw new IllegalArgumentException();
        }
        names.impose(letter, value);
        spoilOwner(letter);
        return names.imposedCount();
    }

    public int dropOverride(char letter) throws NoSuchElementException {
        if (!Names.isLetter(letter) || !names.isImposed(letter)) {
            throw new NoSuchElementException();
        }
        int value = names.lift(letter);
        spoilOwner(letter);
        return value;
    }

    public int orphans() {
        return names.orphanCount();
    }

    public int branch() throws IllegalStateException {
        if (fork.isOpen()) {
            throw new IllegalStateException();
        }
        fork.open(sheet);
        return sheet.keyCount();
    }

    public int wish(int channel, int layer, int frame, int value, char kind)
            throws IndexOutOfBoundsException, IllegalArgumentException, UnsupportedOperationException,
            IllegalStateException {
        requireCurve(channel, layer);
        boolean isRemoval = kind == 'x';
        if (!isFrame(frame) || !(isRemoval || Sheet.isKeyKind(kind) && isWithin(value, MOST_VALUE))) {
            throw new IllegalArgumentException();
        }
        requireCurved(channel);
        int code = Fork.code(channel, layer, frame);
        if (!fork.isOpen() || !fork.hasRoom(code)) {
            throw new IllegalStateException();
        }
        return fork.ask(code, isRemoval ? 0 : Sheet.packed(frame, value, kind));
    }

    public int merge() throws IllegalStateException {
        if (!fork.isOpen()) {
            throw new IllegalStateException();
        }
        int taken = fork.join(sheet);
        settle();
        return taken;
    }

    public int conflicts() {
        return fork.conflictCount();
    }

    public int conflictAt(int index) throws NoSuchElementException {
        if (index < 0 || index >= fork.conflictCount()) {
            throw new NoSuchElementException();
        }
        return fork.conflictCode(index);
    }

    public int tell(boolean isHeld, boolean isAll) {
        // Nobody ever waits, so telling one or all comes to the same.
        if (!isHeld) {
            refusals++;
        }
        return refusals;
    }

    public boolean isPlayed(int channel, int from, int to) throws IndexOutOfBoundsException, IllegalArgumentException {
        requireChannel(channel);
        if (!isTime(from) || !isTime(to) || to < from || to - from > MOST_PLAYED) {
            throw new IllegalArgumentException();
        }
        int present = stage.now();
        boolean isSame = true;
        fresh.forget(Channels.ALL);
        for (int time = from; time <= to; time++) {
            stage.goTo(time);
            if (stage.asked(channel, 0) != fresh.reckoned(channel, time, 0)) {
                isSame = false;
            }
        }
        stage.goTo(present);
        return isSame;
    }

    public float cleanShare() throws ArithmeticException {
        int all = channels.count();
        if (all == 0) {
            throw new ArithmeticException();
        }
        return (float) stage.settledCount() / (float) all;
    }

    public double meanKeys() throws ArithmeticException {
        int curves = sheet.usedCurves();
        if (curves == 0) {
            throw new ArithmeticException();
        }
        return (double) sheet.keyCount() / (double) curves;
    }

    private void requireChannel(int channel) throws IndexOutOfBoundsException {
        if (!channels.has(channel)) {
            throw new IndexOutOfBoundsException();
        }
    }

    private void requireCurve(int channel, int layer) throws IndexOutOfBoundsException {
        if (!channels.has(channel) || !layers.has(layer)) {
            throw new IndexOutOfBoundsException();
        }
    }

    private void requireUpperLayer(int layer) throws IndexOutOfBoundsException {
        if (layer == 0 || !layers.has(layer)) {
            throw new IndexOutOfBoundsException();
        }
    }

    private void requireCurved(int channel) throws UnsupportedOperationException {
        if (channels.kind(channel) != 'k') {
            throw new UnsupportedOperationException();
        }
    }

    private void requireBone(int bone) throws IndexOutOfBoundsException {
        if (!bones.has(bone)) {
            throw new IndexOutOfBoundsException();
        }
    }

    private void requireMarker(int marker) throws IndexOutOfBoundsException {
        if (!markers.has(marker)) {
            throw new IndexOutOfBoundsException();
        }
    }

    private int requiredKey(int channel, int layer, int index)
            throws IndexOutOfBoundsException, NoSuchElementException {
        requireCurve(channel, layer);
        int curve = Sheet.curve(channel, layer);
        if (index < 0 || index >= sheet.size(curve)) {
            throw new NoSuchElementException();
        }
        return sheet.key(curve, index);
    }

    private static boolean isTime(int time) {
        return time >= LEAST_TIME && time <= LAST_TIME;
    }

    private static boolean isFrame(int frame) {
        return frame >= LEAST_FRAME && frame <= LAST_FRAME;
    }

    private static boolean isWithin(int number, int most) {
        return number >= -most && number <= most;
    }

    /** Whether the channels of a bone and of its parent are as reaching asks for. */
    private boolean isLimb(int bone, int parent) {
        int upper = bones.turner(parent);
        int lower = bones.turner(bone);
        return upper != lower && channels.kind(upper) == 'k' && channels.kind(lower) == 'k'
                && !bones.turnsAbove(parent, upper) && !bones.turnsAbove(parent, lower);
    }

    /** All values are read ahead of the first key, as a baked key would change those that follow. */
    private void readBaked(int channel, int from, int width) {
        fresh.forget(Channels.ALL);
        for (int i = 0; i < width; i++) {
            long nearest = Numbers.nearest(fresh.reckoned(channel, 4 * (from + i), 0));
            bakedValues[i] = (int) Math.max(-MOST_VALUE, Math.min(MOST_VALUE, nearest));
        }
    }

    /** What a call has changed in the sheet becomes one edit; a call that has changed nothing is none. */
    private void settle() {
        int changes = history.changes(sheet, channels);
        if (changes != 0) {
            history.push(sheet);
            stage.spoil(changes & Channels.ALL);
        }
    }

    private boolean moveInHistory(int step) {
        if (!history.canMove(step)) {
            return false;
        }
        history.move(step);
        int changes = history.changes(sheet, channels);
        history.restore(sheet);
        stage.spoil(changes & Channels.ALL);
        return true;
    }

    private void spoilOwner(char letter) {
        int owner = names.owner(letter);
        if (owner != Names.NONE) {
            stage.spoil(1 << owner);
        }
    }

    /** The operations of numbers; none of them answers NaN for what a rig can hold. */
    private static final class Numbers {
        private static final int BOUND = 1000000000;
        // From the least double to the bound there are 1104 doublings.
        private static final int MOST_DOUBLINGS = 2200;

        static double held(double number) {
            if (number > BOUND) {
                return BOUND;
            }
            if (number < -BOUND) {
                return -BOUND;
            }
            return number == 0.0 ? 0.0 : number;
        }

        static double worked(char kind, double a, double b) {
            switch (kind) {
                case '+':
                    return a + b;
                case '-':
                    return a - b;
                case '*':
                    return a * b;
                case '%':
                    return b == 0.0 ? 0.0 : remainder(a, b);
                case 'x':
                    return a >= b ? a : b;
                case 'n':
                    return a <= b ? a : b;
                case 'a':
                    return a < 0.0 ? -a : a;
                case 's':
                    return a > 0.0 ? 1.0 : a < 0.0 ? -1.0 : 0.0;
                case 'r':
                    return (double) nearest(a);
                case 'f':
                    return (double) floor(a);
                case 'c':
                    return (double) -floor(-a);
                default:
                    return 0.0;
            }
        }

        /** Exact, with the sign of the first number, as each step takes a doubling of the second one away. */
        static double remainder(double number, double divisor) {
            double rest = number < 0.0 ? -number : number;
            double least = divisor < 0.0 ? -divisor : divisor;
            double part = least;
            for (int i = 0; i < MOST_DOUBLINGS && part <= rest - part; i++) {
                part = part + part;
            }
            for (int i = 0; i < MOST_DOUBLINGS && part >= least; i++) {
                if (rest >= part) {
                    rest = rest - part;
                }
                part = part / 2.0;
            }
            return number < 0.0 ? -rest : rest;
        }

        static long floor(double number) {
            long whole = (long) number;
            return (double) whole > number ? whole - 1 : whole;
        }

        /** The nearest whole number, and of two that are as near, the even one. */
        static long nearest(double number) {
            long whole = floor(number);
            double over = number - (double) whole;
            if (over > 0.5 || over == 0.5 && (whole & 1) == 1) {
                return whole + 1;
            }
            return whole;
        }

        static double between(char kind, double a, double b, double u) {
            switch (kind) {
                case 'l':
                    return a + (b - a) * u;
                case 'e':
                    return a + (b - a) * (u * u * (3.0 - 2.0 * u));
                default:
                    return a;
            }
        }
    }

    /** The table of channels: kinds, numbers and inputs. */
    private static final class Channels {
        static final int MOST = 16;
        static final int ALL = 0xffff;
        private final char[] kinds = new char[MOST];
        private final int[] inputs = new int[2 * MOST];
        private final int[] firsts = new int[MOST];
        private final int[] seconds = new int[MOST];
        private int count;

        static boolean isKind(char kind) {
            return inputsOf(kind) >= 0;
        }

        /** How many inputs a kind has, -1 if there is no such kind. */
        static int inputsOf(char kind) {
            switch (kind) {
                case 'k':
                case 't':
                    return 0;
                case 'a':
                case 's':
                case 'r':
                case 'f':
                case 'c':
                case 'd':
                case 'p':
                    return 1;
                case '+':
                case '-':
                case '*':
                case '%':
                case 'x':
                case 'n':
                    return 2;
                default:
                    return -1;
            }
        }

        static boolean fitsNumbers(char kind, int first, int second) {
            if (kind == 'd') {
                return first >= 1 && first <= 100;
            }
            return kind != 'p' || first >= 1 && first <= 8 && second >= 0 && second <= 8;
        }

        int count() {
            return count;
        }

        boolean has(int channel) {
            return channel >= 0 && channel < count;
        }

        boolean isFull() {
            return count == MOST;
        }

        int append(char kind, int a, int b, int first, int second) {
            int wanted = inputsOf(kind);
            kinds[count] = kind;
            inputs[2 * count] = wanted > 0 ? a : 0;
            inputs[2 * count + 1] = wanted > 1 ? b : 0;
            firsts[count] = first;
            seconds[count] = second;
            count++;
            return count - 1;
        }

        char kind(int channel) {
            return kinds[channel];
        }

        int input(int channel, int which) {
            return inputs[2 * channel + which];
        }

        void join(int channel, int which, int other) {
            inputs[2 * channel + which] = other;
        }

        int first(int channel) {
            return firsts[channel];
        }

        int second(int channel) {
            return seconds[channel];
        }

        /** How many inputs are asked at the present time when a channel is run. */
        int askedInputs(int channel) {
            char kind = kinds[channel];
            return kind == 'd' || kind == 'p' ? 0 : inputsOf(kind);
        }

        int curvedOnes() {
            int mask = 0;
            for (int i = 0; i < count; i++) {
                if (kinds[i] == 'k') {
                    mask |= 1 << i;
                }
            }
            return mask;
        }

        /** Rejoining lets a channel depend on a later one, so one pass by rising numbers is not enough. */
        int withDependents(int mask) {
            int all = mask;
            for (int pass = 0; pass < count; pass++) {
                for (int i = 0; i < count; i++) {
                    int wanted = inputsOf(kinds[i]);
                    if (wanted > 0 && (all >> inputs[2 * i] & 1) == 1
                            || wanted > 1 && (all >> inputs[2 * i + 1] & 1) == 1) {
                        all |= 1 << i;
                    }
                }
            }
            return all;
        }
    }

    /** What edits change: the keys of all curves, packed into numbers that rise with the frames, and the weights. */
    private static final class Sheet {
        static final int LAYERS = 4;
        static final int CURVE_KEYS = 20;
        static final int CURVES = Channels.MOST * LAYERS;
        static final int CHANNEL_SLOTS = LAYERS * CURVE_KEYS;
        static final int WEIGHTS = CURVES * CURVE_KEYS;
        static final int WIDTH = WEIGHTS + LAYERS;
        private final int[] row = new int[WIDTH];

        Sheet() {
            for (int i = WEIGHTS; i < WIDTH; i++) {
                row[i] = 100;
            }
        }

        static int curve(int channel, int layer) {
            return channel * LAYERS + layer;
        }

        static boolean isKeyKind(char kind) {
            return kind == 's' || kind == 'l' || kind == 'e';
        }

        /** Never 0, which stands for no key. */
        static int packed(int frame, int value, char kind) {
            int sort = kind == 's' ? 1 : kind == 'l' ? 2 : 3;
            return (frame + 100) << 16 | (value + 1000) << 2 | sort;
        }

        static int frameOf(int key) {
            return (key >> 16) - 100;
        }

        static int valueOf(int key) {
            return (key >> 2 & 0x3fff) - 1000;
        }

        static char kindOf(int key) {
            int sort = key & 3;
            return sort == 1 ? 's' : sort == 2 ? 'l' : 'e';
        }

        int[] row() {
            return row;
        }

        void take(int[] rows, int begin) {
            System.arraycopy(rows, begin, row, 0, WIDTH);
        }

        int weight(int layer) {
            return row[WEIGHTS + layer];
        }

        void setWeight(int layer, int weight) {
            row[WEIGHTS + layer] = weight;
        }

        int key(int curve, int index) {
            return row[curve * CURVE_KEYS + index];
        }

        int size(int curve) {
            int begin = curve * CURVE_KEYS;
            int size = 0;
            while (size < CURVE_KEYS && row[begin + size] != 0) {
                size++;
            }
            return size;
        }

        /** The key of a frame, 0 if there is none. */
        int keyOn(int curve, int frame) {
            int begin = curve * CURVE_KEYS;
            for (int i = begin; i < begin + CURVE_KEYS; i++) {
                if (row[i] != 0 && frameOf(row[i]) == frame) {
                    return row[i];
                }
            }
            return 0;
        }

        boolean hasRoom(int curve, int frame) {
            return key(curve, CURVE_KEYS - 1) == 0 || keyOn(curve, frame) != 0;
        }

        int sizeOutside(int curve, int from, int to) {
            int begin = curve * CURVE_KEYS;
            int size = 0;
            for (int i = begin; i < begin + CURVE_KEYS; i++) {
                if (row[i] != 0 && (frameOf(row[i]) < from || frameOf(row[i]) > to)) {
                    size++;
                }
            }
            return size;
        }

        /** The caller has seen that there is room. */
        void put(int curve, int key) {
            drop(curve, frameOf(key));
            int begin = curve * CURVE_KEYS;
            int slot = begin + CURVE_KEYS - 1;
            while (slot > begin && (row[slot - 1] == 0 || row[slot - 1] > key)) {
                row[slot] = row[slot - 1];
                slot--;
            }
            row[slot] = key;
        }

        void drop(int curve, int frame) {
            int begin = curve * CURVE_KEYS;
            int kept = begin;
            for (int i = begin; i < begin + CURVE_KEYS; i++) {
                if (row[i] != 0 && frameOf(row[i]) != frame) {
                    row[kept] = row[i];
                    kept++;
                }
            }
            Arrays.fill(row, kept, begin + CURVE_KEYS, 0);
        }

        /** Takes away the keys that a line between their neighbours meets within the bound. */
        int dropNearLine(int curve, int bound) {
            int size = size(curve);
            int begin = curve * CURVE_KEYS;
            int kept = begin;
            for (int i = begin + 1; i < begin + size; i++) {
                if (i == begin + size - 1 || !isNearLine(row[kept], row[i], row[i + 1], bound)) {
                    kept++;
                    row[kept] = row[i];
                }
            }
            int dropped = size == 0 ? 0 : begin + size - 1 - kept;
            Arrays.fill(row, begin + size - dropped, begin + size, 0);
            return dropped;
        }

        private static boolean isNearLine(int before, int key, int after, int bound) {
            double f = (double) frameOf(before);
            double width = (double) frameOf(after) - f;
            if (width <= 0.0) {
                return false;
            }
            double u = ((double) frameOf(key) - f) / width;
            double line = Numbers.between('l', (double) valueOf(before), (double) valueOf(after), u);
            double gap = line - (double) valueOf(key);
            return (gap < 0.0 ? -gap : gap) <= (double) bound;
        }

        int keyCount() {
            int all = 0;
            for (int curve = 0; curve < CURVES; curve++) {
                all += size(curve);
            }
            return all;
        }

        int usedCurves() {
            int used = 0;
            for (int curve = 0; curve < CURVES; curve++) {
                if (key(curve, 0) != 0) {
                    used++;
                }
            }
            return used;
        }
    }

    /** The layers, but for their weights and keys, and the values of curves on them. */
    private static final class Layers {
        private final char[] kinds = new char[Sheet.LAYERS];
        private final boolean[] muted = new boolean[Sheet.LAYERS];
        private final int[] leftOut = new int[Sheet.LAYERS];
        private final char[] ends = new char[2 * Sheet.CURVES];
        private int count = 1;

        Layers() {
            for (int i = 0; i < ends.length; i++) {
                ends[i] = 'h';
            }
        }

        static boolean isLayerKind(char kind) {
            return kind == '+' || kind == 'o';
        }

        static boolean isEnd(char end) {
            return end == 'h' || end == 'c' || end == 'o';
        }

        boolean has(int layer) {
            return layer >= 0 && layer < count;
        }

        boolean isFull() {
            return count == Sheet.LAYERS;
        }

        int append(char kind) {
            kinds[count] = kind;
            count++;
            return count - 1;
        }

        boolean isMuted(int layer) {
            return muted[layer];
        }

        void setMuted(int layer, boolean is) {
            muted[layer] = is;
        }

        boolean isLeftOut(int layer, int channel) {
            return (leftOut[layer] >> channel & 1) == 1;
        }

        void setLeftOut(int layer, int channel, boolean is) {
            leftOut[layer] = is ? leftOut[layer] | 1 << channel : leftOut[layer] & ~(1 << channel);
        }

        char endBefore(int curve) {
            return ends[2 * curve];
        }

        /** Whether one of the ends becomes another one. */
        boolean setEnds(int curve, char before, char after) {
            boolean isOther = ends[2 * curve] != before || ends[2 * curve + 1] != after;
            ends[2 * curve] = before;
            ends[2 * curve + 1] = after;
            return isOther;
        }

        /** The value of a channel of the kind 'k' at a time in frames. */
        double mixed(Sheet sheet, int channel, double time) {
            double mix = curveAt(sheet, Sheet.curve(channel, 0), time);
            for (int layer = 1; layer < count; layer++) {
                int curve = Sheet.curve(channel, layer);
                if (muted[layer] || isLeftOut(layer, channel) || sheet.key(curve, 0) == 0) {
                    continue;
                }
                double c = curveAt(sheet, curve, time);
                double w = (double) sheet.weight(layer) / 100.0;
                mix = kinds[layer] == 'o' ? mix * (1.0 - w) + w * c : mix + w * c;
            }
            return mix;
        }

        private double curveAt(Sheet sheet, int curve, double time) {
            int size = sheet.size(curve);
            if (size == 0) {
                return 0.0;
            }
            int firstKey = sheet.key(curve, 0);
            int lastKey = sheet.key(curve, size - 1);
            double first = (double) Sheet.frameOf(firstKey);
            double last = (double) Sheet.frameOf(lastKey);
            double length = last - first;
            if (length <= 0.0) {
                return (double) Sheet.valueOf(firstKey);
            }
            double at = time;
            double rise = 0.0;
            if (time < first || time > last) {
                char end = time < first ? ends[2 * curve] : ends[2 * curve + 1];
                if (end == 'h') {
                    return (double) Sheet.valueOf(time < first ? firstKey : lastKey);
                }
                double n = (double) Numbers.floor((time - first) / length);
                at = first + (time - first - n * length);
                rise = end == 'o' ? n * (double) (Sheet.valueOf(lastKey) - Sheet.valueOf(firstKey)) : 0.0;
            }
            int index = 0;
            while (index < size - 1 && (double) Sheet.frameOf(sheet.key(curve, index + 1)) <= at) {
                index++;
            }
            int key = sheet.key(curve, index);
            double value = (double) Sheet.valueOf(key);
            if (index < size - 1) {
                int next = sheet.key(curve, index + 1);
                double f = (double) Sheet.frameOf(key);
                double width = (double) Sheet.frameOf(next) - f;
                double u = width <= 0.0 ? 0.0 : (at - f) / width;
                value = Numbers.between(Sheet.kindOf(key), value, (double) Sheet.valueOf(next), u);
            }
            return value + rise;
        }
    }

    /** The letters of channels, and what letters are overridden with. */
    private static final class Names {
        static final int NONE = -1;
        private static final int LETTERS = 26;
        private final int[] owners = new int[LETTERS];
        private final int[] letters = new int[Channels.MOST];
        private final boolean[] imposed = new boolean[LETTERS];
        private final int[] values = new int[LETTERS];

        Names() {
            for (int i = 0; i < LETTERS; i++) {
                owners[i] = NONE;
            }
            for (int i = 0; i < Channels.MOST; i++) {
                letters[i] = NONE;
            }
        }

        static boolean isLetter(char letter) {
            return letter >= 'a' && letter <= 'z';
        }

        int owner(char letter) {
            return owners[letter - 'a'];
        }

        boolean hasLetter(int channel) {
            return letters[channel] != NONE;
        }

        void give(int channel, char letter) {
            if (letters[channel] != NONE) {
                owners[letters[channel]] = NONE;
            }
            letters[channel] = letter - 'a';
            owners[letter - 'a'] = channel;
        }

        boolean isOverridden(int channel) {
            return letters[channel] != NONE && imposed[letters[channel]];
        }

        /** Only for a channel that is overridden. */
        double imposedValue(int channel) {
            return letters[channel] == NONE ? 0.0 : (double) values[letters[channel]];
        }

        boolean isImposed(char letter) {
            return imposed[letter - 'a'];
        }

        void impose(char letter, int value) {
            imposed[letter - 'a'] = true;
            values[letter - 'a'] = value;
        }

        int lift(char letter) {
            imposed[letter - 'a'] = false;
            return values[letter - 'a'];
        }

        int imposedCount() {
            int all = 0;
            for (int i = 0; i < LETTERS; i++) {
                if (imposed[i]) {
                    all++;
                }
            }
            return all;
        }

        int orphanCount() {
            int all = 0;
            for (int i = 0; i < LETTERS; i++) {
                if (imposed[i] && owners[i] == NONE) {
                    all++;
                }
            }
            return all;
        }
    }

    /** Reckons channels at any time, and keeps what it has found until it is told to forget it. */
    private static final class Reckoner {
        private static final int TIMES = 801;
        private static final int FRAMES = 101;
        // An acyclic chain goes through each channel once at most.
        private static final int DEEPEST = 40;
        private final Channels channels;
        private final Layers layers;
        private final Sheet sheet;
        private final Names names;
        private final double[] found = new double[Channels.MOST * TIMES];
        private final int[] foundRounds = new int[Channels.MOST * TIMES];
        private final int[] rounds = new int[Channels.MOST];
        private final double[] places = new double[Channels.MOST * FRAMES];
        private final double[] speeds = new double[Channels.MOST];
        private final int[] frames = new int[Channels.MOST];

        Reckoner(Channels channels, Layers layers, Sheet sheet, Names names) {
            this.channels = channels;
            this.layers = layers;
            this.sheet = sheet;
            this.names = names;
            for (int i = 0; i < Channels.MOST; i++) {
                rounds[i] = 1;
            }
        }

        /** What was found in an earlier round counts no more. */
        void forget(int mask) {
            for (int i = 0; i < Channels.MOST; i++) {
                if ((mask >> i & 1) == 1) {
                    rounds[i]++;
                    frames[i] = 0;
                }
            }
        }

        private double reckoned(int channel, int time, int depth) {
            if (depth > DEEPEST) {
                return 0.0;
            }
            int slot = channel * TIMES + time - LEAST_TIME;
            if (foundRounds[slot] == rounds[channel]) {
                return found[slot];
            }
            double result;
            char kind = channels.kind(channel);
            if (names.isOverridden(channel)) {
                result = names.imposedValue(channel);
            } else if (kind == 'k') {
                result = layers.mixed(sheet, channel, (double) time / 4.0);
            } else if (kind == 't') {
                result = (double) time / 4.0;
            } else if (kind == 'd') {
                int earlier = Math.max(time - channels.first(channel), LEAST_TIME);
                result = reckoned(channels.input(channel, 0), earlier, depth + 1);
            } else if (kind == 'p') {
                result = sprung(channel, time, depth);
            } else {
                double a = reckoned(channels.input(channel, 0), time, depth + 1);
                double b = channels.askedInputs(channel) > 1
                        ? reckoned(channels.input(channel, 1), time, depth + 1) : 0.0;
                result = Numbers.worked(kind, a, b);
            }
            result = Numbers.held(result);
            found[slot] = result;
            foundRounds[slot] = rounds[channel];
            return result;
        }

        private double sprung(int channel, int time, int depth) {
            int input = channels.input(channel, 0);
            if (time < 0) {
                return reckoned(input, time, depth + 1);
            }
            int frame = time / 4;
            int last = time == 4 * frame ? frame : frame + 1;
            int begin = channel * FRAMES;
            double k = (double) channels.first(channel) / 8.0;
            double d = (double) channels.second(channel) / 8.0;
            for (int next = frames[channel]; next <= last && next < FRAMES; next++) {
                double v = reckoned(input, 4 * next, depth + 1);
                double speed = 0.0;
                double place = v;
                if (next > 0) {
                    double before = speeds[channel];
                    double from = places[begin + next - 1];
                    speed = Numbers.held(before + (v - from) * k - before * d);
                    place = Numbers.held(from + speed);
                }
                speeds[channel] = speed;
                places[begin + next] = place;
                frames[channel] = next + 1;
            }
            double p = places[begin + frame];
            double q = places[begin + last];
            return last == frame ? p : p + (q - p) * ((double) time / 4.0 - (double) frame);
        }
    }

    /** The present time, which channels are clean, and how often channels were run. */
    private static final class Stage {
        private static final int DEEPEST = 40;
        private final Channels channels;
        private final Names names;
        private final Reckoner kept;
        private final double[] values = new double[Channels.MOST];
        private int time;
        private int settled;
        private int ran;

        Stage(Channels channels, Names names, Reckoner kept) {
            this.channels = channels;
            this.names = names;
            this.kept = kept;
        }

        int now() {
            return time;
        }

        /** What the reckoner has found stands for its own time, so that only the present values go. */
        void goTo(int other) {
            if (time != other) {
                time = other;
                settled = 0;
            }
        }

        void spoil(int mask) {
            int all = channels.withDependents(mask);
            settled &= ~all;
            kept.forget(all);
        }

        boolean isSettled(int channel) {
            return (settled >> channel & 1) == 1;
        }

        int settledCount() {
            return Integer.bitCount(settled);
        }

        int runCount() {
            return ran;
        }

        private double asked(int channel, int depth) {
            if (isSettled(channel) || depth > DEEPEST) {
                return values[channel];
            }
            double result;
            int inputs = channels.askedInputs(channel);
            if (names.isOverridden(channel)) {
                result = names.imposedValue(channel);
            } else if (inputs == 0) {
                result = kept.reckoned(channel, time, 0);
            } else {
                double a = asked(channels.input(channel, 0), depth + 1);
                double b = inputs > 1 ? asked(channels.input(channel, 1), depth + 1) : 0.0;
                result = Numbers.worked(channels.kind(channel), a, b);
            }
            values[channel] = Numbers.held(result);
            settled |= 1 << channel;
            ran++;
            return values[channel];
        }
    }

    /** The states of the sheet before and behind the present one, in a ring of rows. */
    private static final class History {
        private static final int STEPS = 20;
        private static final int ROWS = STEPS + 1;
        private static final int OTHER_WEIGHTS = Channels.ALL + 1;
        private final int[] rows = new int[ROWS * Sheet.WIDTH];
        private int present;
        private int behind;
        private int ahead;

        History() {
            Arrays.fill(rows, Sheet.WEIGHTS, Sheet.WIDTH, 100);
        }

        /**
         * The channels with other keys, or of another weight, in the sheet than in the present row, and a bit for
         * the weights themselves, as these can change where no channel has curves.
         */
        int changes(Sheet sheet, Channels channels) {
            int[] row = sheet.row();
            int begin = present * Sheet.WIDTH;
            int mask = 0;
            for (int i = 0; i < channels.count() * Sheet.CHANNEL_SLOTS && i < Sheet.WEIGHTS; i++) {
                if (rows[begin + i] != row[i]) {
                    mask |= 1 << i / Sheet.CHANNEL_SLOTS;
                }
            }
            for (int i = Sheet.WEIGHTS; i < Sheet.WIDTH; i++) {
                if (rows[begin + i] != row[i]) {
                    mask |= OTHER_WEIGHTS | channels.curvedOnes();
                }
            }
            return mask;
        }

        void push(Sheet sheet) {
            present = (present + 1) % ROWS;
            System.arraycopy(sheet.row(), 0, rows, present * Sheet.WIDTH, Sheet.WIDTH);
            behind = Math.min(behind + 1, STEPS);
            ahead = 0;
        }

        boolean canMove(int step) {
            return step < 0 ? behind > 0 : ahead > 0;
        }

        void move(int step) {
            present = (present + step + ROWS) % ROWS;
            behind += step;
            ahead -= step;
        }

        void restore(Sheet sheet) {
            sheet.take(rows, present * Sheet.WIDTH);
        }
    }

    /** The bones, and where the one is that was walked to last. */
    private static final class Bones {
        static final int NONE = -1;
        static final int MOST = 8;
        private static final int[] X_NUMBERS = {64, 45, 0, -45, -64, -45, 0, 45};
        private static final int[] Y_NUMBERS = {0, 45, 64, 45, 0, -45, -64, -45};
        private final Stage stage;
        private final int[] parents = new int[MOST];
        private final int[] lengths = new int[MOST];
        private final int[] turners = new int[MOST];
        private final int[] chain = new int[MOST];
        private int count;
        private int heading;
        private double tipX;
        private double tipY;

        Bones(Stage stage) {
            this.stage = stage;
        }

        boolean has(int bone) {
            return bone >= 0 && bone < count;
        }

        boolean isFull() {
            return count == MOST;
        }

        int append(int parent, int length, int channel) {
            parents[count] = parent;
            lengths[count] = length;
            turners[count] = channel;
            count++;
            return count - 1;
        }

        int parent(int bone) {
            return parents[bone];
        }

        int turner(int bone) {
            return turners[bone];
        }

        /** Whether a channel turns a bone from which this one comes. */
        boolean turnsAbove(int bone, int channel) {
            int above = parents[bone];
            for (int i = 0; i < MOST && above != NONE; i++) {
                if (turners[above] == channel) {
                    return true;
                }
                above = parents[above];
            }
            return false;
        }

        /** Finds the heading and the tip of a bone; NONE is where bones without a parent begin. */
        void walk(int bone) {
            int links = 0;
            for (int link = bone; links < MOST && link != NONE; link = parents[link]) {
                chain[links] = link;
                links++;
            }
            heading = 0;
            tipX = 0.0;
            tipY = 0.0;
            for (int i = links - 1; i >= 0; i--) {
                long turn = Numbers.nearest(stage.asked(turners[chain[i]], 0));
                heading = (int) (heading + turn & 7);
                tipX = tipX + part(lengths[chain[i]], X_NUMBERS[heading]);
                tipY = tipY + part(lengths[chain[i]], Y_NUMBERS[heading]);
            }
        }

        private static double part(int length, int number) {
            return (double) (length * number) / 64.0;
        }

        int heading() {
            return heading;
        }

        double tipX() {
            return tipX;
        }

        double tipY() {
            return tipY;
        }

        /** 8 times the turn of the parent plus its own turn, with which the tip is nearest. */
        int bestTurns(int bone, int x, int y) {
            int parent = parents[bone];
            walk(parent == NONE ? NONE : parents[parent]);
            if (parent == NONE) {
                return 0;
            }
            int best = 0;
            double least = 0.0;
            for (int turns = 0; turns < 64; turns++) {
                int upper = heading + turns / 8 & 7;
                int lower = upper + turns % 8 & 7;
                double a = tipX + part(lengths[parent], X_NUMBERS[upper]) + part(lengths[bone], X_NUMBERS[lower]);
                double b = tipY + part(lengths[parent], Y_NUMBERS[upper]) + part(lengths[bone], Y_NUMBERS[lower]);
                double square = (x - a) * (x - a) + (y - b) * (y - b);
                if (turns == 0 || square < least) {
                    best = turns;
                    least = square;
                }
            }
            return best;
        }
    }

    /** The markers, and the sum of the one that was located last. */
    private static final class Markers {
        private static final int MOST = 4;
        private final Bones bones;
        private final int[] weights = new int[MOST * Bones.MOST];
        private final double[] offsetsX = new double[MOST];
        private final double[] offsetsY = new double[MOST];
        private int count;
        private double sumX;
        private double sumY;

        Markers(Bones bones) {
            this.bones = bones;
        }

        boolean has(int marker) {
            return marker >= 0 && marker < count;
        }

        boolean isFull() {
            return count == MOST;
        }

        int append() {
            count++;
            return count - 1;
        }

        void locate(int marker) {
            int begin = marker * Bones.MOST;
            int total = 0;
            for (int bone = 0; bone < Bones.MOST; bone++) {
                total += weights[begin + bone];
            }
            sumX = 0.0;
            sumY = 0.0;
            for (int bone = 0; bone < Bones.MOST; bone++) {
                int weight = weights[begin + bone];
                if (weight != 0 && total != 0) {
                    bones.walk(bone);
                    sumX = sumX + bones.tipX() * (double) weight / (double) total;
                    sumY = sumY + bones.tipY() * (double) weight / (double) total;
                }
            }
        }

        double spotX(int marker) {
            return offsetsX[marker] + sumX;
        }

        double spotY(int marker) {
            return offsetsY[marker] + sumY;
        }

        int weight(int marker, int bone) {
            return weights[marker * Bones.MOST + bone];
        }

        void setWeight(int marker, int bone, int weight) {
            weights[marker * Bones.MOST + bone] = weight;
        }

        /** Moves the offset so that a marker that has just been located is at this place. */
        void hold(int marker, double x, double y) {
            offsetsX[marker] = x - sumX;
            offsetsY[marker] = y - sumY;
        }
    }

    /** The wishes of the other person by rising keys, what all keys were, and the conflicts of the last merge. */
    private static final class Fork {
        private static final int MOST = 40;
        private final Sheet base = new Sheet();
        private final int[] codes = new int[MOST];
        private final int[] wished = new int[MOST];
        private final int[] clashes = new int[MOST];
        private boolean isBegun;
        private int count;
        private int clashCount;

        static int code(int channel, int layer, int frame) {
            return 10000 * channel + 1000 * layer + frame + 100;
        }

        boolean isOpen() {
            return isBegun;
        }

        void open(Sheet sheet) {
            base.take(sheet.row(), 0);
            isBegun = true;
            count = 0;
        }

        /** The first slot whose code is not less. */
        private int slot(int code) {
            int slot = 0;
            while (slot < count && codes[slot] < code) {
                slot++;
            }
            return slot;
        }

        boolean hasRoom(int code) {
            int slot = slot(code);
            return count < MOST || slot < count && codes[slot] == code;
        }

        /** The caller has seen that there is room; a key of 0 is the wish that there be none. */
        int ask(int code, int key) {
            int slot = slot(code);
            if (slot == count || codes[slot] != code) {
                System.arraycopy(codes, slot, codes, slot + 1, count - slot);
                System.arraycopy(wished, slot, wished, slot + 1, count - slot);
                codes[slot] = code;
                count++;
            }
            wished[slot] = key;
            return count;
        }

        /** Takes the wishes that can be taken, and returns how many there were. */
        int join(Sheet sheet) {
            int taken = 0;
            clashCount = 0;
            for (int i = 0; i < count; i++) {
                int curve = Sheet.curve(codes[i] / 10000, codes[i] / 1000 % 10);
                int frame = codes[i] % 1000 - 100;
                int now = sheet.keyOn(curve, frame);
                boolean isThere = now == wished[i];
                boolean isFree = now == base.keyOn(curve, frame) && sheet.hasRoom(curve, frame);
                if (!isThere && !isFree) {
                    clashes[clashCount] = codes[i];
                    clashCount++;
                    continue;
                }
                taken++;
                if (wished[i] == 0) {
                    sheet.drop(curve, frame);
                } else if (!isThere) {
                    sheet.put(curve, wished[i]);
                }
            }
            isBegun = false;
            return taken;
        }

        int conflictCount() {
            return clashCount;
        }

        int conflictCode(int index) {
            return clashes[index];
        }
    }
}
