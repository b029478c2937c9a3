/** The paragraphs 'Running' and 'Springs' of the document, and promises 14 to 20 and 43. */
final class RunningEdges {
    private static final double BOUND = 1000000000.0;

    private RunningEdges() {
    }

    static void run() {
        cleanAndDirty();
        asking();
        otherTimes();
        keysAndEnds();
        joins();
        undoing();
        layers();
        presentTime();
        overrides();
        names();
        bonesAsk();
        springsBegin();
        springsGoOn();
        springsAreHeld();
        springsBetween();
        springsAreKept();
        settingTime();
        values();
        valuesAtTimes();
        phases();
        wholes();
        counts();
        shares();
    }

    /** Which channels are clean, as one letter for each: 'c' or 'd'. */
    private static String state(MotionRig rig, int channels) {
        StringBuilder state = new StringBuilder();
        for (int c = 0; c < channels; c++) {
            state.append(rig.isClean(c) ? 'c' : 'd');
        }
        return state.toString();
    }

    private static void askAll(MotionRig rig, int channels) {
        for (int c = 0; c < channels; c++) {
            rig.value(c);
        }
    }

    private static void cleanAndDirty() {
        Edge.holds("Running", "A channel is clean or dirty.", "A channel is dirty at first.");
        MotionRig rig = House.row("kt+-*%xnasrfcdp");
        Edge.is("all at first", "ddddddddddddddd", state(rig, 15));
        rig.value(0);
        Edge.is("the one that was asked", "cdddddddddddddd", state(rig, 15));
        rig.addChannel('k', 0, 0, 0, 0);
        Edge.is("a new one is dirty, too, and no other one", "cddddddddddddddd", state(rig, 16));
        Edge.is("nothing was run by that", 1, rig.runs());
    }

    private static void asking() {
        Edge.holds("Running", "To ask for a channel at the present time, it is run if it is dirty: first its inputs "
            + "are asked, the first one ahead, and then it is reckoned and is clean.");
        MotionRig rig = House.row("taaaaaaaaaaaaaaa");
        rig.value(15);
        Edge.is("all sixteen are run", 16, rig.runs());
        rig.value(15);
        rig.value(7);
        Edge.is("and not again", 16, rig.runs());
        MotionRig two = House.row("t+++++");
        two.value(5);
        Edge.is("a channel that is asked twice is run once", 6, two.runs());
        MotionRig part = House.row("t+++++");
        part.value(2);
        Edge.is("but not what is not asked", "cccddd", state(part, 6));
        part.value(5);
        Edge.is("clean inputs are not run again", 6, part.runs());
        MotionRig one = House.row("kk");
        one.addChannel('a', 1, 0, 0, 0);
        one.value(2);
        Edge.is("a kind with one input asks no second one", "dcc", state(one, 3));
    }

    private static void otherTimes() {
        Edge.holds("Running", "Inputs of 'd' and 'p' are not asked so, but are reckoned at other times; that counts "
            + "no runs.");
        MotionRig rig = House.row("tadap");
        rig.setTime(9);
        Edge.is("'d' over 'a'", 2.0, rig.value(2));
        Edge.is("one run", 1, rig.runs());
        Edge.is("and the inputs are dirty", "ddcdd", state(rig, 5));
        Edge.is("'p' over 'a' over 'd'", rig.valueAt(4, 9), rig.value(4));
        Edge.is("one run", 2, rig.runs());
        Edge.is("and the inputs are as they were", "ddcdc", state(rig, 5));
        rig.setTime(-1);
        Edge.is("'p' ahead of the frame 0", 0.5, rig.value(4));
        Edge.is("one run", 3, rig.runs());
        Edge.is("and the inputs are dirty", "ddddc", state(rig, 5));
    }

    /** A curve, what depends on it over 'a', '+', 'd' and 'p', and a curve and the time, which do not. */
    private static MotionRig six() {
        MotionRig rig = new MotionRig();
        rig.addChannel('k', 0, 0, 0, 0);
        rig.addChannel('d', 0, 0, 4, 0);
        rig.addChannel('k', 0, 0, 0, 0);
        rig.addChannel('p', 1, 0, 4, 4);
        rig.addChannel('t', 0, 0, 0, 0);
        rig.addChannel('+', 4, 3, 0, 0);
        rig.setKey(0, 0, 0, 5, 's');
        rig.setKey(0, 0, 4, 9, 's');
        rig.addLayer('+');
        askAll(rig, 6);
        return rig;
    }

    private static void dirt(String what, String due, Edge.Call call) {
        MotionRig rig = six();
        call.on(rig);
        Edge.is(what, due, state(rig, 6));
    }

    private static Object twice(MotionRig rig, Edge.Call call) {
        call.on(rig);
        askAll(rig, 6);
        return call.on(rig);
    }

    private static void keysAndEnds() {
        Edge.holds("Running", "When a key, an end or an input of a channel becomes another one, by a call or by "
            + "undoing, it and all that depend on it become dirty, over inputs of 'd' and 'p', too");
        Edge.is("clean", "cccccc", state(six(), 6));
        dirt("a new key", "ddcdcd", rig -> rig.setKey(0, 0, 100, 5, 's'));
        dirt("another value", "ddcdcd", rig -> rig.setKey(0, 0, 0, 6, 's'));
        dirt("another kind", "ddcdcd", rig -> rig.setKey(0, 0, 4, 9, 'e'));
        dirt("the same key", "cccccc", rig -> rig.setKey(0, 0, 4, 9, 's'));
        dirt("a key on another layer", "ddcdcd", rig -> rig.setKey(0, 1, -100, 0, 's'));
        dirt("a key of another channel", "ccdccc", rig -> rig.setKey(2, 0, 0, 0, 's'));
        dirt("no key any more", "ddcdcd", rig -> rig.removeKey(0, 0, 4));
        dirt("an end ahead", "ddcdcd", rig -> rig.extend(0, 0, 'c', 'h'));
        dirt("an end behind", "ddcdcd", rig -> rig.extend(0, 0, 'h', 'o'));
        dirt("an end of a curve without keys", "ddcdcd", rig -> rig.extend(0, 1, 'h', 'o'));
        dirt("the same ends", "cccccc", rig -> rig.extend(0, 0, 'h', 'h'));
        dirt("baking", "ddcdcd", rig -> rig.bake(0, 0, 1, 2));
        dirt("baking a curve without keys", "ccdccc", rig -> rig.bake(2, 0, 1, 1));
        dirt("baking the same keys again", "cccccc", rig -> twice(rig, r -> r.bake(0, 0, 1, 2)));
        dirt("thinning", "ddcdcd", rig -> {
            rig.setKey(0, 0, 6, 9, 's');
            askAll(rig, 6);
            return rig.thin(0, 0, 1000);
        });
        dirt("thinning that takes no key away", "cccccc", rig -> rig.thin(0, 0, 1000));
        dirt("a refused key", "cccccc", rig -> Check.outcome(() -> rig.setKey(0, 0, 101, 0, 's')));
        dirt("a wish", "cccccc", rig -> rig.branch() + rig.wish(0, 0, 0, 0, 'x'));
        dirt("merging", "ddcdcd", rig -> rig.branch() + rig.wish(0, 0, 0, 0, 'x') + rig.merge());
        dirt("merging what is there", "cccccc", rig -> rig.branch() + rig.wish(0, 0, 0, 5, 's') + rig.merge());
    }

    private static void joins() {
        Edge.holds("Running", "an input of a channel becomes another one");
        dirt("another first input", "cccccd", rig -> rig.rejoin(5, 0, 2));
        dirt("another second input", "cccccd", rig -> rig.rejoin(5, 1, 2));
        dirt("the same input", "cccccc", rig -> rig.rejoin(5, 1, 3));
        dirt("another input of 'd'", "cdcdcd", rig -> rig.rejoin(1, 0, 4));
        dirt("another input of 'p'", "cccdcd", rig -> rig.rejoin(3, 0, 0));
        dirt("a circle", "cccccc", rig -> Check.outcome(() -> rig.rejoin(3, 0, 5)));
    }

    private static void undoing() {
        Edge.holds("Running", "by a call or by undoing");
        dirt("undoing a key", "ddcdcd", rig -> rig.undo());
        MotionRig rig = six();
        rig.undo();
        askAll(rig, 6);
        rig.redo();
        Edge.is("doing it again", "ddcdcd", state(rig, 6));
        askAll(rig, 6);
        rig.redo();
        Edge.is("nothing to do again", "cccccc", state(rig, 6));
        rig.weigh(1, 99);
        askAll(rig, 6);
        rig.undo();
        Edge.is("undoing a weight", "ddddcd", state(rig, 6));
        dirt("nothing to undo", "cccccc", r -> {
            r.undo();
            r.undo();
            askAll(r, 6);
            return r.undo();
        });
    }

    private static void layers() {
        Edge.holds("Running", "when a weight of a layer, whether it is muted, or what it leaves out becomes another "
            + "one, all channels of the kind 'k' and all that depend on these");
        dirt("the least weight", "ddddcd", rig -> rig.weigh(1, 0));
        dirt("another weight", "ddddcd", rig -> rig.weigh(1, 99));
        dirt("the same weight", "cccccc", rig -> rig.weigh(1, 100));
        dirt("muting", "ddddcd", rig -> rig.mute(1, true));
        dirt("not muting", "cccccc", rig -> rig.mute(1, false));
        dirt("leaving out", "ddddcd", rig -> rig.leaveOut(1, 2, true));
        dirt("leaving out what is no curve", "ddddcd", rig -> rig.leaveOut(1, 4, true));
        dirt("leaving nothing out", "cccccc", rig -> rig.leaveOut(1, 0, false));
        dirt("a refused weight", "cccccc", rig -> Check.outcome(() -> rig.weigh(1, 101)));
        dirt("a new layer, which has no keys", "cccccc", rig -> rig.addLayer('o'));
    }

    private static void presentTime() {
        Edge.holds("Running", "when the present time becomes another one, all channels.");
        dirt("another time", "dddddd", rig -> rig.setTime(1));
        dirt("the least time", "dddddd", rig -> rig.setTime(-400));
        dirt("the same time", "cccccc", rig -> rig.setTime(0));
        dirt("a refused time", "cccccc", rig -> Check.outcome(() -> rig.setTime(401)));
        dirt("there and back", "dddddd", rig -> rig.setTime(1) + rig.setTime(0));
    }

    private static void overrides() {
        Edge.holds("Running", "Setting or dropping an override makes the channel with this name dirty, with all that "
            + "depend on it");
        MotionRig rig = six();
        rig.name(1, 'a');
        rig.override('z', 3);
        Edge.is("of a letter that nobody has", "cccccc", state(rig, 6));
        rig.dropOverride('z');
        Edge.is("dropped again", "cccccc", state(rig, 6));
        rig.override('a', 3);
        Edge.is("of the letter", "cdcdcd", state(rig, 6));
        askAll(rig, 6);
        rig.override('a', 3);
        Edge.is("set again", "cdcdcd", state(rig, 6));
        askAll(rig, 6);
        Check.outcome(() -> rig.override('a', 1001));
        Check.outcome(() -> rig.dropOverride('b'));
        Edge.is("refused", "cccccc", state(rig, 6));
        rig.dropOverride('a');
        Edge.is("dropped", "cdcdcd", state(rig, 6));
        Edge.holds("Running", "A channel with an override is run, and this counts, without its inputs.");
        MotionRig sum = House.row("t+++");
        sum.name(2, 'm');
        sum.override('m', -9);
        Edge.is("-9 twice", -18.0, sum.value(3));
        Edge.is("two runs", 2, sum.runs());
        Edge.is("the inputs are dirty", "ddcc", state(sum, 4));
        sum.value(2);
        Edge.is("it is clean", 2, sum.runs());
    }

    private static void names() {
        Edge.holds("Running", "naming does so with a channel if its name before or its new one has an override.");
        MotionRig rig = six();
        rig.name(1, 'a');
        rig.name(1, 'b');
        Edge.is("neither has one", "cccccc", state(rig, 6));
        rig.override('c', 1);
        rig.name(1, 'c');
        Edge.is("the new one has one", "cdcdcd", state(rig, 6));
        askAll(rig, 6);
        Check.outcome(() -> rig.name(0, 'c'));
        Edge.is("which another one can't have", "cccccc", state(rig, 6));
        rig.override('d', 1);
        rig.name(1, 'd');
        Edge.is("both have one", "cdcdcd", state(rig, 6));
        askAll(rig, 6);
        rig.name(1, 'e');
        Edge.is("the one before had one", "cdcdcd", state(rig, 6));
    }

    private static void bonesAsk() {
        Edge.holds("Running", "Bones, markers and reaching ask for channels as value() does.");
        MotionRig rig = six();
        rig.addBone(-1, 1, 5);
        rig.addBone(0, 1, 0);
        rig.addBone(1, 1, 2);
        rig.addMarker();
        rig.follow(0, 2, 1);
        int runs = rig.runs();
        rig.setTime(5);
        rig.direction(1);
        Edge.is("direction", "cddccc", state(rig, 6));
        Edge.is("direction", runs + 4, rig.runs());
        rig.setTime(6);
        rig.tip(0, false);
        Edge.is("tip", "dddccc", state(rig, 6));
        Edge.is("tip", runs + 7, rig.runs());
        rig.setTime(7);
        rig.place(0, false);
        Edge.is("place", "cdcccc", state(rig, 6));
        Edge.is("place", runs + 12, rig.runs());
        rig.setTime(8);
        rig.follow(0, 2, 2);
        Edge.is("follow", runs + 17, rig.runs());
        rig.setTime(9);
        rig.reach(2, 1, 1);
        Edge.is("reach: and its keys make the two dirty, and what depends on them", "ddddcd", state(rig, 6));
        Edge.is("reach", runs + 20, rig.runs());
    }

    private static void springsBegin() {
        Edge.holds("Springs", "A spring has a place and a speed at each frame from 0 on: at the frame 0, the place is "
            + "what its input is there, and the speed 0.0.");
        for (int value : new int[] {-1000, -1, 0, 1, 1000}) {
            MotionRig rig = new MotionRig();
            House.constant(rig, value);
            rig.addChannel('p', 0, 0, 1, 0);
            Edge.is("the place at the frame 0", (double) value, rig.valueAt(1, 0));
            Edge.is("and with the speed 0.0 it stays", (double) value, rig.valueAt(1, 4));
            Edge.is("to the end", (double) value, rig.valueAt(1, 400));
        }
    }

    /** Place after place by the words of the document; the input is a line from 8 at -100 to -1000 at 100. */
    private static void springsGoOn() {
        Edge.holds("Springs", "At each next frame, with v as what its input is there, k as its first number divided "
            + "by 8.0, and d as its second one divided by 8.0, the speed becomes itself plus (v - place) * k, less the "
            + "speed of before times d, and then the place becomes itself plus the speed");
        for (int first = 1; first <= 8; first++) {
            for (int second = 0; second <= 8; second++) {
                MotionRig rig = House.curve('l', -100, 8, 100, -1000);
                rig.addChannel('p', 0, 0, first, second);
                double place = rig.valueAt(0, 0);
                double speed = 0.0;
                for (int frame = 1; frame <= 100; frame++) {
                    double v = rig.valueAt(0, 4 * frame);
                    double before = speed;
                    speed = speed + (v - place) * (first / 8.0) - before * (second / 8.0);
                    place = place + speed;
                    speed = Math.max(-BOUND, Math.min(BOUND, speed));
                    place = Math.max(-BOUND, Math.min(BOUND, place));
                    if (frame < 3 || frame % 33 == 1) {
                        Edge.is("place at " + frame + " by " + first + " " + second, place, rig.valueAt(1, 4 * frame));
                    }
                }
            }
        }
    }

    private static void springsAreHeld() {
        Edge.holds("Springs", "both are held by the bounds.");
        MotionRig rig = House.curve('s', 0, 1000, 1, -1000);
        rig.addChannel('*', 0, 0, 0, 0);
        rig.addChannel('*', 1, 0, 0, 0);
        rig.addChannel('p', 2, 0, 8, 0);
        double[] due = {BOUND, 0.0, -BOUND, -BOUND, -BOUND};
        for (int frame = 0; frame < due.length; frame++) {
            Edge.is("down: place at " + frame, due[frame], rig.valueAt(3, 4 * frame));
        }
        rig.addChannel('k', 0, 0, 0, 0);
        rig.addChannel('-', 4, 2, 0, 0);
        rig.rejoin(3, 0, 5);
        for (int frame = 0; frame < due.length; frame++) {
            Edge.is("up: place at " + frame, -due[frame] + 0.0, rig.valueAt(3, 4 * frame));
        }
        MotionRig turn = House.curve('s', 0, 1000, 1, -1000, 3, 1000);
        turn.addChannel('*', 0, 0, 0, 0);
        turn.addChannel('*', 1, 0, 0, 0);
        turn.addChannel('p', 2, 0, 8, 8);
        // Without the speed of before, the place is where the input is, but for the bound of the speed.
        double[] dueBack = {BOUND, 0.0, -BOUND, 0.0, BOUND};
        for (int frame = 0; frame < dueBack.length; frame++) {
            Edge.is("and back: place at " + frame, dueBack[frame], turn.valueAt(3, 4 * frame));
        }
    }

    private static void springsBetween() {
        Edge.holds("Springs", "At a time t, in frames, with f as Math.floor(t): if f is less than 0, what its input "
            + "is then; if t is f, the place at f; otherwise p + (q - p) * (t - f), where p and q are the places at f "
            + "and f + 1.");
        MotionRig rig = House.curve('l', -100, 700, 100, -300);
        rig.addChannel('p', 0, 0, 3, 1);
        for (int time : new int[] {-400, -399, -4, -3, -2, -1}) {
            Edge.is("ahead of the frame 0 at " + time, rig.valueAt(0, time), rig.valueAt(1, time));
            rig.setTime(time);
            Edge.is("at the present time", rig.valueAt(0, time), rig.value(1));
        }
        for (int time : new int[] {0, 1, 2, 3, 4, 5, 7, 8, 395, 396, 397, 398, 399, 400}) {
            double p = rig.valueAt(1, time / 4 * 4);
            double q = rig.valueAt(1, (time + 3) / 4 * 4);
            double due = time % 4 == 0 ? p : p + (q - p) * (time % 4 / 4.0);
            Edge.is("at " + time, due, rig.valueAt(1, time));
            rig.setTime(time);
            Edge.is("at the present time " + time, due, rig.value(1));
        }
        MotionRig last = House.row("taaaaaaaaaaaaadp");
        for (int time : new int[] {0, 1, 4, 399, 400}) {
            MotionRig first = House.row("tadp");
            last.setTime(time);
            Edge.is("the last channel at " + time, first.valueAt(3, time), last.valueAt(15, time));
            Edge.is("the last channel at the present time " + time, first.valueAt(3, time), last.value(15));
        }
        Edge.is("the frame 0 is the input there", rig.valueAt(0, 0), rig.valueAt(1, 0));
        Edge.is("the frame 1 is not", false, rig.valueAt(0, 4) == rig.valueAt(1, 4));
    }

    private static void springsAreKept() {
        Edge.holds("Springs", "Places that were found are kept until the spring becomes dirty by something else than "
            + "the time.");
        MotionRig rig = House.curve('s', 0, 10, 100, 20);
        rig.addChannel('p', 0, 0, 2, 2);
        rig.addChannel('p', 1, 0, 2, 2);
        rig.setTime(400);
        double end = rig.value(2);
        rig.setTime(40);
        double part = rig.value(2);
        rig.setTime(400);
        Edge.is("the same place again", end, rig.value(2));
        Edge.is("as it is from nothing", rig.valueAt(2, 400), end);
        Edge.is("three runs of this one alone", 3, rig.runs());
        rig.setKey(0, 0, 9, 999, 's');
        rig.setTime(40);
        Edge.is("another key: another place", false, rig.value(2) == part);
        Edge.is("as it is from nothing", rig.valueAt(2, 40), rig.value(2));
        rig.undo();
        Edge.is("undone: the place of before", part, rig.value(2));
        rig.rejoin(1, 0, rig.addChannel('t', 0, 0, 0, 0));
        Edge.is("another input: another place", rig.valueAt(2, 40), rig.value(2));
        rig.rejoin(1, 0, 0);
        Edge.is("and back", part, rig.value(2));
    }

    private static void settingTime() {
        Edge.holds("Promise 14", "`time`: the time", "Returns the time before.",
            "Throws `IllegalArgumentException` if it is out of range");
        MotionRig rig = new MotionRig();
        int before = 0;
        for (int time : new int[] {-400, 400, -399, 399, 399, 1, -1, 0}) {
            Edge.is("before " + time, before, rig.setTime(time));
            before = time;
        }
        Edge.refusedFor(Edge.beside(-400, 400), Edge.ARGUMENT, (r, time) -> r.setTime(time));
    }

    private static void values() {
        Edge.holds("Promise 15", "`channel`: the number of the channel", "Returns its value.",
            "Throws `IndexOutOfBoundsException` if there is no such channel");
        Edge.is("the first channel", 0.0, House.row("tkkkkkkkkkkkkkka").value(0));
        Edge.is("the last channel", 0.0, House.row("tkkkkkkkkkkkkkka").value(15));
        Edge.refusedFor(House.NO_CHANNEL, Edge.INDEX, (rig, c) -> rig.value(c));
    }

    private static void valuesAtTimes() {
        Edge.holds("Promise 16", "no runs are counted, and nothing gets clean.");
        MotionRig rig = House.row("tapd");
        Edge.is("at the last time", rig.valueAt(2, 399), rig.valueAt(3, 400));
        Edge.is("no runs", 0, rig.runs());
        Edge.is("nothing is clean", "dddd", state(rig, 4));
        rig.setTime(7);
        rig.value(1);
        rig.valueAt(3, -400);
        Edge.is("what is clean stays so", "ccdd", state(rig, 4));
        Edge.is("the time stays", 7, rig.setTime(7));
        Edge.holds("Promise 16", "`channel`: the number of the channel", "`time`: the time", "Returns its value.",
            "Throws `IndexOutOfBoundsException` if there is no such channel",
            "Throws `IllegalArgumentException` if the time is out of range");
        for (int time : Edge.within(-400, 400)) {
            Edge.is("at " + time, Math.abs(time / 4.0), rig.valueAt(1, time));
        }
        Edge.refusedFor(Edge.beside(-400, 400), Edge.ARGUMENT, (r, time) -> r.valueAt(0, time));
        Edge.refusedFor(House.NO_CHANNEL, Edge.INDEX, (r, c) -> r.valueAt(c, 0));
        Edge.holds("Exceptions", "If several exceptions apply, the one that is documented first is thrown.");
        Edge.refusedFor(House.NO_CHANNEL, Edge.INDEX, (r, c) -> r.valueAt(c, 401));
    }

    private static void phases() {
        Edge.holds("Promise 17", "`channel`: the number of the channel", "`lap`: the lap, 1 to 1000", "Returns its "
            + "value converted to float, modulo the lap converted to float, as Java's remainder of floats.");
        MotionRig rig = House.curve('l', -100, -1000, 100, 1000);
        for (int time : new int[] {-400, -399, -3, -1, 0, 1, 3, 399, 400}) {
            rig.setTime(time);
            for (int lap : new int[] {1, 2, 3, 7, 999, 1000}) {
                float due = (float) rig.valueAt(0, time) % (float) lap;
                Edge.is("by " + lap + " at " + time, due, rig.phase(0, lap));
            }
        }
        MotionRig whole = House.curve('s', 0, -8);
        Edge.is("-8 by 8 is Java's -0.0", -0.0f, whole.phase(0, 8));
        Edge.is("-8 by 3", -2.0f, whole.phase(0, 3));
        Edge.is("-8 by 9", -8.0f, whole.phase(0, 9));
        Edge.is("one run", 1, whole.runs());
        Edge.is("16777217 as a double", 16777217.0, great().value(4));
        Edge.is("and as a float, by 1000", 216.0f, great().phase(4, 1000));
        Edge.holds("Promise 17", "Throws `IndexOutOfBoundsException` if there is no such channel",
            "Throws `IllegalArgumentException` if the lap is out of range");
        Edge.refusedFor(Edge.beside(1, 1000), Edge.ARGUMENT, (r, lap) -> r.phase(0, lap));
        Edge.refusedFor(House.NO_CHANNEL, Edge.INDEX, (r, c) -> r.phase(c, 1));
        Edge.holds("Exceptions", "If several exceptions apply, the one that is documented first is thrown.");
        Edge.refusedFor(House.NO_CHANNEL, Edge.INDEX, (r, c) -> r.phase(c, 0));
    }

    /** The channel 4 is 256 * 256 * 256 + 1, the least whole number above 0 that no float is. */
    private static MotionRig great() {
        MotionRig rig = new MotionRig();
        House.constant(rig, 256);
        House.constant(rig, 1);
        rig.addChannel('*', 0, 0, 0, 0);
        rig.addChannel('*', 2, 0, 0, 0);
        rig.addChannel('+', 3, 1, 0, 0);
        return rig;
    }

    private static void wholes() {
        Edge.holds("Promise 18", "`channel`: the number of the channel",
            "Returns its value converted to float, and this to long.");
        MotionRig rig = House.row("t");
        long[][] rows = {{-400, -100}, {-399, -99}, {-4, -1}, {-3, 0}, {-1, 0}, {0, 0}, {1, 0}, {3, 0}, {4, 1},
            {399, 99}, {400, 100}};
        for (long[] row : rows) {
            rig.setTime((int) row[0]);
            Edge.is("at " + row[0], row[1], rig.whole(0));
        }
        Edge.is("one run for each", rows.length, rig.runs());
        Edge.is("16777217 by a float", 16777216L, great().whole(4));
        Edge.holds("Promise 18", "Throws `IndexOutOfBoundsException` if there is no such channel");
        Edge.refusedFor(House.NO_CHANNEL, Edge.INDEX, (r, c) -> r.whole(c));
    }

    private static void counts() {
        Edge.holds("Promise 19", "`channel`: the number of the channel", "Returns whether it is.",
            "Throws `IndexOutOfBoundsException` if there is no such channel");
        MotionRig rig = House.row("taaaaaaaaaaaaaaa");
        rig.value(14);
        Edge.is("all but the last one", "cccccccccccccccd", state(rig, 16));
        rig.value(15);
        Edge.is("the last one, too", true, rig.isClean(15));
        Edge.refusedFor(House.NO_CHANNEL, Edge.INDEX, (r, c) -> r.isClean(c));
        Edge.holds("Promise 20", "Returns the number of times.");
        Edge.is("at first", 0, new MotionRig().runs());
        Edge.is("behind 16 channels", 16, rig.runs());
        Edge.is("and asking does not count", 16, rig.runs());
    }

    private static void shares() {
        Edge.holds("Promise 43", "Returns their number divided by that of all, both converted to float.",
            "Throws `ArithmeticException` if there are none");
        Edge.refused(MotionRig::new, "no channels", ArithmeticException.class, r -> r.cleanShare());
        MotionRig rig = House.row("taaaaaaaaaaaaaaa");
        for (int c = 0; c < 16; c++) {
            Edge.is(c + " of 16", (float) c / 16.0f, rig.cleanShare());
            rig.value(c);
        }
        Edge.is("all of 16", 1.0f, rig.cleanShare());
        rig.setTime(1);
        Edge.is("none of 16", 0.0f, rig.cleanShare());
        MotionRig three = House.row("tkk");
        three.value(1);
        Edge.is("one of three", 1.0f / 3.0f, three.cleanShare());
        three.value(2);
        Edge.is("two of three", 2.0f / 3.0f, three.cleanShare());
        Edge.is("none of one", 0.0f, House.row("k").cleanShare());
    }
}
