import java.util.ArrayList;
import java.util.List;
import java.util.Random;

/** All promises: random runs of calls, from fixed seeds, answered by the class and by the plain model. */
public final class ModelTest {
    private static final int CALLS = 512;
    private static final String KINDS = "kkkkkkt+-*%xnasrfcdp";

    private final Random random;
    private final MotionRig rig = new MotionRig();
    private final Model model = new Model();
    private final List<String> told = new ArrayList<>();
    private final int style;
    private boolean wrong;
    private int calls;

    private ModelTest(long seed) {
        random = new Random(seed);
        style = (int) (seed % 4);
    }

    public static void main(String[] args) {
        int runs = args.length > 0 ? Integer.parseInt(args[0]) : 1500;
        long first = args.length > 1 ? Long.parseLong(args[1]) : 1;
        int failed = 0;
        for (long seed = first; seed < first + runs && failed < 5; seed++) {
            if (!new ModelTest(seed).isSame(seed)) {
                failed++;
            }
        }
        Check.is("runs that went wrong", 0, failed);
        Check.end("ModelTest");
    }

    private boolean isSame(long seed) {
        int channels = style == 3 ? 16 : 3 + random.nextInt(10);
        for (int i = 0; i < channels; i++) {
            add(i);
        }
        for (int i = random.nextInt(4); i > 0; i--) {
            call("addLayer", random.nextBoolean() ? '+' : 'o');
        }
        for (int i = 0; i < 2 + random.nextInt(6); i++) {
            call("addBone", i == 0 ? -1 : random.nextInt(i + 1) - 1, 1 + random.nextInt(100), random.nextInt(channels));
        }
        call("addMarker");
        call("addMarker");
        while (calls < CALLS && !wrong) {
            step();
            probe();
        }
        if (wrong) {
            System.out.println("seed " + seed);
            for (String line : told) {
                System.out.println("  " + line);
            }
        }
        return !wrong;
    }

    private void add(int i) {
        char kind = i == 0 ? pick("kkkt") : i == 1 ? 'k' : pick(KINDS);
        int least = i > 4 && random.nextBoolean() ? i - 3 : 0;
        call("addChannel", kind, i == 0 ? 0 : least + random.nextInt(i - least),
            i == 0 ? 0 : random.nextInt(i), 1 + random.nextInt(8), random.nextInt(9));
    }

    /** What can be seen without a change is held now and then, so that a slip is found near its call. */
    private void probe() {
        if (random.nextInt(4) != 0) {
            return;
        }
        call("isClean", channel());
        call("runs");
        if (random.nextInt(8) == 0) {
            call("cleanShare");
            call("meanKeys");
            call("orphans");
            call("conflicts");
        }
    }

    private char pick(String of) {
        return of.charAt(random.nextInt(of.length()));
    }

    private int of(int least, int most) {
        if (random.nextInt(60) == 0) {
            int[] wrongOnes = {least - 1, least - 1, most + 1, most + 1, Integer.MIN_VALUE, Integer.MAX_VALUE};
            return wrongOnes[random.nextInt(wrongOnes.length)];
        }
        return least + random.nextInt(most - least + 1);
    }

    private char letterOf(String good, String bad) {
        return pick(random.nextInt(40) == 0 ? bad : good);
    }

    private int channel() {
        return of(0, model.channels.size() - 1);
    }

    /** Mostly one of the few with curves. */
    private int curved() {
        for (int i = 0; i < 6; i++) {
            int c = random.nextInt(model.channels.size());
            if (model.channels.get(c).kind == 'k') {
                return c;
            }
        }
        return channel();
    }

    private int layer() {
        return random.nextInt(3) == 0 ? 0 : of(0, model.layers.size() - 1);
    }

    private int upper() {
        return of(1, Math.max(1, model.layers.size() - 1));
    }

    private int bone() {
        return of(0, model.bones.size() - 1);
    }

    private int marker() {
        return of(0, model.markers.size() - 1);
    }

    private int frame() {
        return style == 0 ? of(-100, 100) : style == 1 ? random.nextInt(7) - 3 : random.nextInt(30) - 10;
    }

    private int worth() {
        return style == 1 ? random.nextInt(9) - 4 : of(-1000, 1000);
    }

    private int time() {
        return random.nextInt(3) == 0 ? of(-400, 400) : random.nextInt(121) - 40;
    }

    private char kind() {
        return letterOf("sle", "xzh");
    }

    private char letter() {
        return random.nextInt(30) == 0 ? pick("`{A") : (char) ('a' + random.nextInt(5) * (style == 0 ? 6 : 1));
    }

    private void step() {
        switch (random.nextInt(44)) {
            case 0:
                if (random.nextInt(4) == 0) {
                    call("addChannel", letterOf("kt+-*%xnasrfcdp", "qoh"), channel(), channel(), of(1, 100), of(0, 8));
                } else {
                    call("addChannel", pick("kpd+"), channel(), channel(), of(1, 8), of(0, 8));
                }
                break;
            case 1:
            case 2:
                call("rejoin", channel(), of(0, 1), channel());
                break;
            case 3:
            case 4:
            case 5:
            case 6:
            case 7:
            case 8:
                call("setKey", curved(), layer(), frame(), worth(), kind());
                break;
            case 9:
                removal();
                break;
            case 10:
                call("keys", channel(), layer());
                call("keyAt", curved(), layer(), of(0, 3));
                call("keyValue", curved(), layer(), of(0, 3));
                break;
            case 11:
                call("extend", curved(), layer(), letterOf("hco", "xsH"), letterOf("hco", "xsH"));
                break;
            case 12:
                call("weigh", upper(), of(0, 100));
                break;
            case 13:
                call("mute", upper(), random.nextBoolean());
                call("leaveOut", upper(), curved(), random.nextBoolean());
                break;
            case 14:
                call("setTime", time());
                break;
            case 15:
                if (random.nextInt(8) == 0) {
                    call("addLayer", letterOf("+o", "hk"));
                    call("addMarker");
                    call("addBone", of(-1, model.bones.size() - 1), of(1, 100), channel());
                }
                break;
            default:
                stepOn();
        }
    }

    private void removal() {
        int c = curved();
        int l = layer();
        Object size = Check.outcome(() -> model.keys(c, l));
        boolean has = size instanceof Integer && (Integer) size > 0;
        int frame = has && random.nextInt(8) != 0 ? model.keyAt(c, l, random.nextInt((Integer) size)) : frame();
        call("removeKey", c, l, frame);
    }

    private void stepOn() {
        switch (random.nextInt(24)) {
            case 0:
            case 1:
            case 2:
            case 3:
                call("value", channel());
                break;
            case 4:
                call("valueAt", channel(), of(-400, 400));
                break;
            case 5:
                call("phase", channel(), of(1, 1000));
                call("phase", channel(), of(1, 7));
                break;
            case 6:
                call("whole", channel());
                break;
            case 7:
                call("direction", bone());
                break;
            case 8:
                call("tip", bone(), random.nextBoolean());
                break;
            case 9:
            case 10:
                call("follow", marker(), bone(), of(0, 9));
                break;
            case 11:
                call("place", marker(), random.nextBoolean());
                break;
            case 12:
                call("reach", bone(), of(-1000, 1000), of(-1000, 1000));
                call("reach", bone(), random.nextInt(200) - 100, random.nextInt(200) - 100);
                break;
            case 13:
                int from = frame();
                call("bake", curved(), layer(), from, from + random.nextInt(style == 0 ? 24 : 6) - 1);
                break;
            case 14:
                call("thin", curved(), layer(), random.nextBoolean() ? of(0, 1000) : random.nextInt(5));
                break;
            case 15:
            case 16:
                call("undo");
                break;
            case 17:
                call("redo");
                break;
            case 18:
                call("name", channel(), letter());
                break;
            case 19:
                call("override", letter(), worth());
                break;
            case 20:
                call("dropOverride", letter());
                break;
            case 21:
                fork();
                break;
            case 22:
                int begin = time();
                call("isPlayed", channel(), begin, begin + of(0, 40));
                break;
            default:
                call("tell", random.nextBoolean(), random.nextBoolean());
                call("conflictAt", of(0, 2));
        }
    }

    private void fork() {
        if (model.base == null) {
            call("branch");
        }
        for (int i = style == 2 ? 30 : random.nextInt(6); i > 0; i--) {
            call("wish", curved(), layer(), frame(), worth(), letterOf("slexx", "hz"));
        }
        if (random.nextInt(3) == 0) {
            call("merge");
            call("conflictAt", 0);
        }
        if (random.nextInt(6) == 0) {
            call("branch");
        }
    }

    private void call(String call, Object... a) {
        if (wrong || calls >= CALLS) {
            return;
        }
        calls++;
        Object due = Check.outcome(() -> Calls.onModel(model, call, a));
        Object got = Check.outcome(() -> Calls.onRig(rig, call, a));
        StringBuilder line = new StringBuilder(call);
        for (Object x : a) {
            line.append(' ').append(x);
        }
        told.add(line.append(" -> ").append(got).append(due.equals(got) ? "" : ", due is " + due).toString());
        wrong = !due.equals(got);
    }
}
