/** Promises 1 to 3, 14 to 20 and 43: a new object, channels, their kinds, time, asking and running. */
public final class ChannelsTest {
    private static final String ALL_KINDS = "kt+-*%xnasrfcdp";

    private ChannelsTest() {
    }

    public static void main(String[] args) {
        newObject();
        addingNumbers();
        addingWrong();
        rejoining();
        rejoiningWrong();
        timeSetting();
        kindsOfTime();
        kindsOfTwo();
        remainders();
        bounds();
        noNegativeZero();
        delays();
        springs();
        springBounds();
        asking();
        dirtiness();
        askingAtATime();
        phases();
        wholes();
        shares();
        Check.end("ChannelsTest");
    }

    /** A channel with one value at all times. */
    static int constant(MotionRig rig, int value) {
        int c = rig.addChannel('k', 0, 0, 0, 0);
        rig.setKey(c, 0, 0, value, 's');
        return c;
    }

    private static void newObject() {
        MotionRig rig = new MotionRig();
        Check.fails("no channel at first", IndexOutOfBoundsException.class, () -> rig.value(0));
        Check.fails("no layer 1 at first", IndexOutOfBoundsException.class, () -> rig.mute(1, true));
        Check.fails("no bone at first", IndexOutOfBoundsException.class, () -> rig.direction(0));
        Check.fails("no marker at first", IndexOutOfBoundsException.class, () -> rig.place(0, true));
        Check.is("no run at first", 0, rig.runs());
        Check.is("no override at first", 0, rig.orphans());
        Check.is("no conflict at first", 0, rig.conflicts());
        Check.is("nothing to undo at first", false, rig.undo());
        Check.is("nothing to redo at first", false, rig.redo());
        Check.fails("no share at first", ArithmeticException.class, () -> rig.cleanShare());
        Check.fails("no keys at first", ArithmeticException.class, () -> rig.meanKeys());
        Check.fails("no branch at first", IllegalStateException.class, () -> rig.merge());
        Check.is("at the time 0 at first", 0, rig.setTime(-400));
        Check.is("the first channel", 0, rig.addChannel('t', 0, 0, 0, 0));
        Check.is("objects share nothing", 0, new MotionRig().addChannel('k', 7, 7, 7, 7));
    }

    private static void addingNumbers() {
        MotionRig rig = new MotionRig();
        for (int i = 0; i < ALL_KINDS.length(); i++) {
            char kind = ALL_KINDS.charAt(i);
            Check.is("adding " + kind, i, rig.addChannel(kind, 0, 1, 1, 0));
        }
        MotionRig odd = new MotionRig();
        Check.is("'k' takes any numbers", 0, odd.addChannel('k', -5, 99, -1, 1000));
        Check.is("'t' takes any numbers", 1, odd.addChannel('t', 99, -1, -1, -7));
        Check.is("'a' takes any second input", 2, odd.addChannel('a', 1, 99, -1, -7));
        Check.is("'+' takes any numbers", 3, odd.addChannel('+', 0, 1, -1, 99));
        Check.is("'d' of 1", 4, odd.addChannel('d', 1, -1, 1, -99));
        Check.is("'d' of 100", 5, odd.addChannel('d', 1, -1, 100, 99));
        Check.is("'p' of the least", 6, odd.addChannel('p', 1, -1, 1, 0));
        Check.is("'p' of the most", 7, odd.addChannel('p', 1, 44, 8, 8));
        Check.is("one channel for both inputs", 8, odd.addChannel('*', 1, 1, 0, 0));
        odd.setTime(12);
        Check.is("and it is asked twice", 9.0, odd.value(8));
    }

    private static void addingWrong() {
        MotionRig rig = new MotionRig();
        Check.fails("an input, but no channel", IndexOutOfBoundsException.class, () -> rig.addChannel('a', 0, 0, 0, 0));
        Check.fails("two inputs, but no channel", IndexOutOfBoundsException.class,
            () -> rig.addChannel('+', 0, 0, 0, 0));
        rig.addChannel('t', 0, 0, 0, 0);
        for (char kind : new char[] {'q', 'K', 'h', 'o', ' ', 'l', 'e', 'b', '/', 0, 0xffff, 0x16b}) {
            Check.fails("kind " + (int) kind, IllegalArgumentException.class, () -> rig.addChannel(kind, 0, 0, 1, 1));
        }
        int[] delays = {0, 101, -1, Integer.MIN_VALUE, Integer.MAX_VALUE};
        for (int d : delays) {
            Check.fails("'d' of " + d, IllegalArgumentException.class, () -> rig.addChannel('d', 0, 0, d, 1));
            Check.fails("'p' of " + d, IllegalArgumentException.class, () -> rig.addChannel('p', 0, 0, d, 1));
        }
        Check.fails("'p' of 9", IllegalArgumentException.class, () -> rig.addChannel('p', 0, 0, 9, 1));
        Check.fails("'p' of 1 and 9", IllegalArgumentException.class, () -> rig.addChannel('p', 0, 0, 1, 9));
        Check.fails("'p' of 1 and -1", IllegalArgumentException.class, () -> rig.addChannel('p', 0, 0, 1, -1));
        Check.fails("number ahead of input", IllegalArgumentException.class, () -> rig.addChannel('d', 9, 0, 0, 0));
        Check.fails("kind ahead of input", IllegalArgumentException.class, () -> rig.addChannel('?', 9, 9, 0, 0));
        for (int bad : new int[] {1, -1, 16, Integer.MAX_VALUE, Integer.MIN_VALUE}) {
            Check.fails("first input " + bad, IndexOutOfBoundsException.class,
                () -> rig.addChannel('-', bad, 0, 0, 0));
            Check.fails("second input " + bad, IndexOutOfBoundsException.class,
                () -> rig.addChannel('-', 0, bad, 0, 0));
            Check.fails("one input " + bad, IndexOutOfBoundsException.class, () -> rig.addChannel('c', bad, 0, 0, 0));
        }
        for (int i = 1; i < 16; i++) {
            Check.is("nothing was added by what failed", i, rig.addChannel('k', 0, 0, 0, 0));
        }
        Check.fails("the 17th", IllegalStateException.class, () -> rig.addChannel('k', 0, 0, 0, 0));
        Check.fails("the 17th with inputs", IllegalStateException.class, () -> rig.addChannel('+', 15, 15, 0, 0));
        Check.fails("input ahead of the 17th", IndexOutOfBoundsException.class,
            () -> rig.addChannel('+', 15, 16, 0, 0));
        Check.fails("kind ahead of the 17th", IllegalArgumentException.class, () -> rig.addChannel('z', 0, 0, 0, 0));
        Check.fails("no channel 16", IndexOutOfBoundsException.class, () -> rig.value(16));
    }

    private static void rejoining() {
        MotionRig rig = new MotionRig();
        int two = constant(rig, 2);
        int five = constant(rig, 5);
        int less = rig.addChannel('-', two, five, 0, 0);
        int over = rig.addChannel('a', less, 0, 0, 0);
        int late = rig.addChannel('d', less, 0, 4, 0);
        int nine = constant(rig, 9);
        Check.is("before", -3.0, rig.value(less));
        rig.value(over);
        rig.value(late);
        rig.value(nine);
        Check.is("the first input before", two, rig.rejoin(less, 0, nine));
        Check.is("it is dirty", false, rig.isClean(less));
        Check.is("what depends on it is dirty", false, rig.isClean(over));
        Check.is("over 'd', too", false, rig.isClean(late));
        Check.is("its inputs are not", true, rig.isClean(five));
        Check.is("behind", 4.0, rig.value(less));
        Check.is("the second input before", five, rig.rejoin(less, 1, two));
        Check.is("a later one than itself", 7.0, rig.value(over));
        Check.is("the same input again", two, rig.rejoin(less, 1, two));
        Check.is("makes nothing dirty", true, rig.isClean(over));
        Check.is("the one input of 'd'", less, rig.rejoin(late, 0, nine));
        Check.is("is now another one", 9.0, rig.value(late));
    }

    private static void rejoiningWrong() {
        MotionRig rig = new MotionRig();
        int k = constant(rig, 1);
        int plus = rig.addChannel('+', k, k, 0, 0);
        int late = rig.addChannel('d', plus, 0, 4, 0);
        int spring = rig.addChannel('p', late, 0, 1, 1);
        int end = rig.addChannel('n', spring, k, 0, 0);
        for (int bad : new int[] {5, -1, Integer.MIN_VALUE, Integer.MAX_VALUE}) {
            Check.fails("no channel " + bad, IndexOutOfBoundsException.class, () -> rig.rejoin(bad, 0, k));
            Check.fails("no other " + bad, IndexOutOfBoundsException.class, () -> rig.rejoin(plus, 0, bad));
            Check.fails("other ahead of input", IndexOutOfBoundsException.class, () -> rig.rejoin(plus, 2, bad));
            if (bad != 5) {
                Check.fails("no input " + bad, IllegalArgumentException.class, () -> rig.rejoin(plus, bad, k));
            }
        }
        Check.fails("no input of 'k'", IllegalArgumentException.class, () -> rig.rejoin(k, 0, plus));
        Check.fails("no second input of 'd'", IllegalArgumentException.class, () -> rig.rejoin(late, 1, k));
        Check.fails("no third input", IllegalArgumentException.class, () -> rig.rejoin(plus, 2, k));
        Check.fails("input ahead of a circle", IllegalArgumentException.class, () -> rig.rejoin(late, 1, late));
        Check.fails("itself", UnsupportedOperationException.class, () -> rig.rejoin(plus, 1, plus));
        Check.fails("over 'd'", UnsupportedOperationException.class, () -> rig.rejoin(plus, 0, late));
        Check.fails("over 'p'", UnsupportedOperationException.class, () -> rig.rejoin(plus, 0, spring));
        Check.fails("over all", UnsupportedOperationException.class, () -> rig.rejoin(plus, 1, end));
        Check.is("nothing has changed", 2.0, rig.valueAt(end, 0) + rig.valueAt(plus, 0) - 1.0);
        rig.rejoin(end, 0, k);
        Check.is("the circle is open now", k, rig.rejoin(plus, 0, end));
        Check.fails("and closed the other way", UnsupportedOperationException.class, () -> rig.rejoin(end, 1, spring));
    }

    private static void timeSetting() {
        MotionRig rig = new MotionRig();
        int t = rig.addChannel('t', 0, 0, 0, 0);
        Check.is("the time before", 0, rig.setTime(400));
        Check.is("the last time", 100.0, rig.value(t));
        Check.is("the time before", 400, rig.setTime(-400));
        Check.is("the first time", -100.0, rig.value(t));
        for (int bad : new int[] {401, -401, Integer.MAX_VALUE, Integer.MIN_VALUE}) {
            Check.fails("time " + bad, IllegalArgumentException.class, () -> rig.setTime(bad));
        }
        Check.is("it stays clean", true, rig.isClean(t));
        Check.is("the time stays", -400, rig.setTime(-399));
        Check.is("it is dirty", false, rig.isClean(t));
        Check.is("a quarter later", -99.75, rig.value(t));
        rig.setTime(-399);
        Check.is("the same time leaves it clean", true, rig.isClean(t));
    }

    private static void kindsOfTime() {
        MotionRig rig = new MotionRig();
        int t = rig.addChannel('t', 0, 0, 0, 0);
        String kinds = "asrfc";
        for (int i = 0; i < kinds.length(); i++) {
            rig.addChannel(kinds.charAt(i), t, 0, 0, 0);
        }
        for (int at = -40; at <= 40; at++) {
            double x = at / 4.0;
            Check.is("abs of " + x, Math.abs(x), rig.valueAt(1, at));
            Check.is("signum of " + x, Math.signum(x), rig.valueAt(2, at));
            Check.is("rint of " + x, Math.rint(x) + 0.0, rig.valueAt(3, at));
            Check.is("floor of " + x, Math.floor(x) + 0.0, rig.valueAt(4, at));
            Check.is("ceil of " + x, Math.ceil(x) + 0.0, rig.valueAt(5, at));
        }
        kindsOfSmall();
    }

    private static void kindsOfSmall() {
        MotionRig rig = new MotionRig();
        int t = rig.addChannel('t', 0, 0, 0, 0);
        int cube = rig.addChannel('*', t, rig.addChannel('*', t, t, 0, 0), 0, 0);
        int[] of = new int[5];
        for (int i = 0; i < 5; i++) {
            of[i] = rig.addChannel("asrfc".charAt(i), cube, 0, 0, 0);
        }
        int greater = rig.addChannel('x', cube, t, 0, 0);
        int lesser = rig.addChannel('n', cube, t, 0, 0);
        for (int at = -8; at <= 8; at++) {
            double x = at / 4.0 * (at / 4.0 * (at / 4.0));
            double[] due = {Math.abs(x), Math.signum(x), Math.rint(x), Math.floor(x), Math.ceil(x)};
            for (int i = 0; i < 5; i++) {
                Check.is("asrfc".charAt(i) + " of " + x, due[i] + 0.0, rig.valueAt(of[i], at));
            }
            Check.is("the greater one", Math.max(x, at / 4.0) + 0.0, rig.valueAt(greater, at));
            Check.is("the lesser one", Math.min(x, at / 4.0) + 0.0, rig.valueAt(lesser, at));
        }
    }

    private static void kindsOfTwo() {
        String kinds = "+-*%xn";
        int[] numbers = {0, 1, -1, 3, -3, 7, -7, 10, 1000, -1000};
        for (int a : numbers) {
            for (int b : numbers) {
                MotionRig rig = new MotionRig();
                int x = constant(rig, a);
                int y = constant(rig, b);
                for (int i = 0; i < kinds.length(); i++) {
                    rig.addChannel(kinds.charAt(i), x, y, 0, 0);
                }
                double p = a;
                double q = b;
                double[] due = {p + q, p - q, p * q, b == 0 ? 0.0 : p % q, Math.max(p, q), Math.min(p, q)};
                for (int i = 0; i < due.length; i++) {
                    Check.is(a + " " + kinds.charAt(i) + " " + b, due[i] + 0.0, rig.value(2 + i));
                }
            }
        }
    }

    private static void remainders() {
        MotionRig rig = new MotionRig();
        int t = rig.addChannel('t', 0, 0, 0, 0);
        int part = rig.addChannel('k', 0, 0, 0, 0);
        rig.setKey(part, 0, -100, -7, 'e');
        rig.setKey(part, 0, 100, 9, 'e');
        int small = rig.addChannel('*', part, part, 0, 0);
        for (int i = 0; i < 6; i++) {
            small = rig.addChannel('*', small, part, 0, 0);
        }
        int rest = rig.addChannel('%', t, part, 0, 0);
        int fine = rig.addChannel('%', t, small, 0, 0);
        for (int at = -400; at <= 400; at += 23) {
            double x = at / 4.0;
            double y = rig.valueAt(part, at);
            double z = rig.valueAt(small, at);
            Check.is(x + " % " + y, y == 0.0 ? 0.0 : x % y + 0.0, rig.valueAt(rest, at));
            Check.is(x + " % " + z, z == 0.0 ? 0.0 : x % z + 0.0, rig.valueAt(fine, at));
        }
        tiny();
    }

    /** A modulus that is less than all doubles but 0 near the end: 0.0 where it has become 0. */
    private static void tiny() {
        MotionRig rig = new MotionRig();
        int t = rig.addChannel('t', 0, 0, 0, 0);
        int u = rig.addChannel('k', 0, 0, 0, 0);
        rig.setKey(u, 0, 0, 0, 'l');
        rig.setKey(u, 0, 100, 1, 'l');
        int power = u;
        for (int i = 0; i < 9; i++) {
            power = rig.addChannel('*', power, power, 0, 0);
        }
        int rest = rig.addChannel('%', t, power, 0, 0);
        for (int at = 1; at < 400; at += 7) {
            double y = rig.valueAt(power, at);
            Check.is(at + "/4 % " + y, y == 0.0 ? 0.0 : at / 4.0 % y, rig.valueAt(rest, at));
        }
    }

    private static void bounds() {
        MotionRig rig = new MotionRig();
        int k = constant(rig, 1000);
        int million = rig.addChannel('*', k, k, 0, 0);
        int most = rig.addChannel('*', million, k, 0, 0);
        int more = rig.addChannel('*', most, k, 0, 0);
        int sum = rig.addChannel('+', most, k, 0, 0);
        int least = constant(rig, -1000);
        int under = rig.addChannel('*', most, least, 0, 0);
        int less = rig.addChannel('-', under, k, 0, 0);
        int square = rig.addChannel('*', under, under, 0, 0);
        Check.is("the bound", 1000000000.0, rig.value(most));
        Check.is("held by a product", 1000000000.0, rig.value(more));
        Check.is("held by a sum", 1000000000.0, rig.value(sum));
        Check.is("held below by a product", -1000000000.0, rig.value(under));
        Check.is("held below by a difference", -1000000000.0, rig.value(less));
        Check.is("held by a square", 1000000000.0, rig.valueAt(square, 4));
        Check.is("not held ahead of the bound", 999999000.0, rig.value(rig.addChannel('-', most, k, 0, 0)));
    }

    private static void noNegativeZero() {
        MotionRig rig = new MotionRig();
        int none = rig.addChannel('k', 0, 0, 0, 0);
        int minus = constant(rig, -3);
        int product = rig.addChannel('*', none, minus, 0, 0);
        int three = constant(rig, 3);
        int rest = rig.addChannel('%', minus, three, 0, 0);
        int t = rig.addChannel('t', 0, 0, 0, 0);
        int nearest = rig.addChannel('r', t, 0, 0, 0);
        int up = rig.addChannel('c', t, 0, 0, 0);
        rig.setTime(-1);
        for (int c : new int[] {product, rest, nearest, up}) {
            Check.is("0.0 at the present time", 0.0, rig.value(c));
            Check.is("0.0 at another time", 0.0, rig.valueAt(c, -2));
        }
        rig.addLayer('+');
        rig.setKey(none, 1, 0, 0, 's');
        rig.setKey(none, 0, 0, 0, 's');
        rig.setKey(none, 0, 4, -4, 'l');
        Check.is("0.0 of a curve", 0.0, rig.valueAt(none, 0));
    }

    private static void delays() {
        MotionRig rig = new MotionRig();
        int t = rig.addChannel('t', 0, 0, 0, 0);
        int one = rig.addChannel('d', t, 0, 1, 0);
        int many = rig.addChannel('d', t, 0, 100, 0);
        int both = rig.addChannel('d', one, 0, 100, 0);
        rig.setTime(10);
        Check.is("a quarter ago", 2.25, rig.value(one));
        Check.is("25 frames ago", -22.5, rig.value(many));
        Check.is("both", -22.75, rig.value(both));
        Check.is("at the first time", -100.0, rig.valueAt(one, -400));
        Check.is("the earliest", -100.0, rig.valueAt(many, -301));
        Check.is("a quarter behind the earliest", -100.0, rig.valueAt(many, -300));
        Check.is("two quarters behind it", -99.75, rig.valueAt(many, -299));
        Check.is("one and then the other", -100.0, rig.valueAt(both, -300));
    }

    private static void springs() {
        MotionRig rig = new MotionRig();
        int k = rig.addChannel('k', 0, 0, 0, 0);
        rig.setKey(k, 0, 0, 0, 's');
        rig.setKey(k, 0, 2, 16, 's');
        rig.setKey(k, 0, -10, 7, 'l');
        int p = rig.addChannel('p', k, 0, 4, 3);
        double[] places = {0.0, 0.0, 8.0, 17.0, 22.125, 22.265625};
        for (int f = 0; f < places.length; f++) {
            Check.is("place at " + f, places[f], rig.valueAt(p, 4 * f));
        }
        Check.is("between two frames", 17.0 + (22.125 - 17.0) * 0.75, rig.valueAt(p, 15));
        Check.is("a quarter behind", 0.0 + (8.0 - 0.0) * 0.25, rig.valueAt(p, 5));
        Check.is("ahead of the frame 0 what the input is then", rig.valueAt(k, -3), rig.valueAt(p, -3));
        Check.is("which is not 0", true, rig.valueAt(p, -3) > 0.0);
        int still = rig.addChannel('p', k, 0, 8, 8);
        Check.is("of the most: at once", 16.0, rig.valueAt(still, 8));
        Check.is("and without a speed of before", 16.0, rig.valueAt(still, 12));
        rig.setTime(399);
        Check.is("the last quarter", rig.valueAt(p, 399), rig.value(p));
        rig.setTime(400);
        Check.is("the last frame", rig.valueAt(p, 400), rig.value(p));
        rig.setTime(8);
        Check.is("back in time", 8.0, rig.value(p));
        rig.setKey(k, 0, 1, 2, 's');
        Check.is("places go when the spring becomes dirty", 9.0 + (1.0 - 1.0 * 0.375) - 0.5, rig.value(p));
        rig.setTime(16);
        Check.is("each spring has its own places", 16.0, rig.value(still));
        Check.is("each spring has its own places", rig.valueAt(p, 16), rig.value(p));
        int begins = rig.addChannel('p', constant(rig, 33), 0, 1, 0);
        Check.is("the place at 0 is what its input is", 33.0, rig.value(begins));
    }

    private static void springBounds() {
        MotionRig rig = new MotionRig();
        int k = rig.addChannel('k', 0, 0, 0, 0);
        rig.setKey(k, 0, 0, -1000, 's');
        rig.setKey(k, 0, 1, 1000, 's');
        int huge = rig.addChannel('*', k, rig.addChannel('*', k, k, 0, 0), 0, 0);
        int p = rig.addChannel('p', huge, 0, 8, 0);
        Check.is("the place at 0", -1000000000.0, rig.valueAt(p, 0));
        Check.is("the speed is held ahead of the place", 0.0, rig.valueAt(p, 4));
        Check.is("then the place is held", 1000000000.0, rig.valueAt(p, 8));
        Check.is("and stays there", 1000000000.0, rig.valueAt(p, 12));
    }

    private static void asking() {
        MotionRig rig = new MotionRig();
        int k = constant(rig, 4);
        int t = rig.addChannel('t', 0, 0, 0, 0);
        int sum = rig.addChannel('+', k, t, 0, 0);
        int late = rig.addChannel('d', sum, 0, 4, 0);
        int spring = rig.addChannel('p', sum, 0, 1, 1);
        int twice = rig.addChannel('+', sum, sum, 0, 0);
        Check.is("dirty at first", false, rig.isClean(k));
        Check.is("'d'", 3.0, rig.value(late));
        Check.is("counts its own run alone", 1, rig.runs());
        Check.is("and its input stays dirty", false, rig.isClean(sum));
        Check.is("'p'", 4.0, rig.value(spring));
        Check.is("counts its own run alone", 2, rig.runs());
        Check.is("two inputs", 4.0, rig.value(sum));
        Check.is("are run ahead", 5, rig.runs());
        Check.is("the inputs are clean", true, rig.isClean(k) && rig.isClean(t));
        rig.value(sum);
        Check.is("a clean one is not run", 5, rig.runs());
        Check.is("one input for both", 8.0, rig.value(twice));
        Check.is("is clean", 6, rig.runs());
        rig.setTime(4);
        Check.is("one input for both", 10.0, rig.value(twice));
        Check.is("is run once", 10, rig.runs());
        for (int bad : new int[] {6, -1, 16, Integer.MAX_VALUE, Integer.MIN_VALUE}) {
            Check.fails("value of " + bad, IndexOutOfBoundsException.class, () -> rig.value(bad));
            Check.fails("isClean of " + bad, IndexOutOfBoundsException.class, () -> rig.isClean(bad));
            Check.fails("whole of " + bad, IndexOutOfBoundsException.class, () -> rig.whole(bad));
        }
        Check.is("what fails runs nothing", 10, rig.runs());
    }

    private static void dirtiness() {
        MotionRig rig = new MotionRig();
        int a = constant(rig, 4);
        int b = constant(rig, 5);
        int late = rig.addChannel('d', a, 0, 4, 0);
        int spring = rig.addChannel('p', late, 0, 1, 1);
        int end = rig.addChannel('a', spring, 0, 0, 0);
        int other = rig.addChannel('a', b, 0, 0, 0);
        rig.value(end);
        rig.value(other);
        Check.is("not asked over 'p'", false, rig.isClean(late));
        rig.setKey(a, 0, 0, 4, 's');
        Check.is("the same key makes nothing dirty", true, rig.isClean(end));
        rig.setKey(a, 0, 0, 4, 'l');
        Check.is("another kind does, over a dirty 'd' and 'p'", false, rig.isClean(end));
        Check.is("but not what does not depend on it", true, rig.isClean(other));
        Check.is("value", 4.0, rig.value(end));
        rig.removeKey(a, 0, 0);
        Check.is("taking away does", false, rig.isClean(end));
        Check.is("value without a key", 0.0, rig.value(end));
        rig.undo();
        Check.is("undoing does", false, rig.isClean(end));
        Check.is("and leaves others", true, rig.isClean(other));
        rig.setTime(1);
        Check.is("the time does with all", false, rig.isClean(other));
        dirtinessOfTwo();
    }

    private static void dirtinessOfTwo() {
        MotionRig rig = new MotionRig();
        int a = constant(rig, 4);
        int b = constant(rig, 5);
        int c = constant(rig, 6);
        int sum = rig.addChannel('+', a, b, 0, 0);
        int more = rig.addChannel('*', c, sum, 0, 0);
        Check.is("value", 54.0, rig.value(more));
        rig.setKey(b, 0, 0, 7, 's');
        Check.is("over second inputs", false, rig.isClean(sum) || rig.isClean(more));
        Check.is("but not the first ones", true, rig.isClean(a) && rig.isClean(c));
        Check.is("value", 66.0, rig.value(more));
        rig.setKey(a, 0, 0, 1, 's');
        Check.is("over first and second inputs", false, rig.isClean(sum) || rig.isClean(more));
        Check.is("value", 48.0, rig.value(more));
        rig.setKey(c, 0, 0, 1, 's');
        Check.is("not what it does not depend on", true, rig.isClean(sum));
        Check.is("value", 8.0, rig.value(more));
        Check.fails("a circle over second inputs", UnsupportedOperationException.class,
            () -> rig.rejoin(sum, 0, more));
        int last = rig.addChannel('-', sum, a, 0, 0);
        rig.rejoin(more, 1, last);
        rig.rejoin(more, 0, last);
        rig.value(more);
        rig.setKey(b, 0, 0, 8, 's');
        Check.is("over a later one", false, rig.isClean(more) || rig.isClean(last));
        int one = rig.addChannel('a', c, b, 0, 0);
        rig.value(one);
        rig.setKey(b, 0, 0, 9, 's');
        Check.is("a second input that it has not is of no meaning", true, rig.isClean(one));
    }

    private static void askingAtATime() {
        MotionRig rig = new MotionRig();
        int t = rig.addChannel('t', 0, 0, 0, 0);
        int a = rig.addChannel('a', t, 0, 0, 0);
        rig.setTime(8);
        Check.is("at -400", 100.0, rig.valueAt(a, -400));
        Check.is("at 400", 100.0, rig.valueAt(a, 400));
        Check.is("at 1", 0.25, rig.valueAt(a, 1));
        Check.is("at the present time", 2.0, rig.valueAt(a, 8));
        Check.is("counts no runs", 0, rig.runs());
        Check.is("and nothing gets clean", false, rig.isClean(a) || rig.isClean(t));
        Check.is("nor is the time another one", 8, rig.setTime(8));
        for (int bad : new int[] {401, -401, Integer.MAX_VALUE, Integer.MIN_VALUE}) {
            Check.fails("at " + bad, IllegalArgumentException.class, () -> rig.valueAt(a, bad));
            Check.fails("channel ahead of time " + bad, IndexOutOfBoundsException.class, () -> rig.valueAt(2, bad));
        }
        Check.fails("no channel -1", IndexOutOfBoundsException.class, () -> rig.valueAt(-1, 0));
    }

    private static void phases() {
        MotionRig rig = new MotionRig();
        int t = rig.addChannel('t', 0, 0, 0, 0);
        int k = constant(rig, 999);
        int cube = rig.addChannel('*', k, rig.addChannel('*', k, k, 0, 0), 0, 0);
        rig.setTime(-30);
        Check.is("-7.5 within 2", -1.5f, rig.phase(t, 2));
        Check.is("it was run", 1, rig.runs());
        Check.is("-7.5 within 1000", -7.5f, rig.phase(t, 1000));
        rig.setTime(-28);
        Check.is("-7 within 1 is Java's -0.0", -7.0f % 1.0f, rig.phase(t, 1));
        rig.setTime(30);
        Check.is("7.5 within 2", 1.5f, rig.phase(t, 2));
        Check.is("as a float", 997002999.0f % 1000.0f, rig.phase(cube, 1000));
        Check.is("which is not its whole value", false, 997002999.0f % 1000.0f == 999.0f);
        int third = rig.addChannel('k', 0, 0, 0, 0);
        rig.setKey(third, 0, 0, 0, 'l');
        rig.setKey(third, 0, 100, 1000, 'l');
        int seventh = rig.addChannel('%', third, constant(rig, 7), 0, 0);
        for (int at = 0; at < 400; at += 13) {
            rig.setTime(at);
            Check.is("a share", (float) rig.valueAt(seventh, at) % 3.0f, rig.phase(seventh, 3));
        }
        for (int bad : new int[] {0, -1, 1001, Integer.MAX_VALUE, Integer.MIN_VALUE}) {
            Check.fails("lap " + bad, IllegalArgumentException.class, () -> rig.phase(t, bad));
            Check.fails("channel ahead of lap " + bad, IndexOutOfBoundsException.class, () -> rig.phase(-1, bad));
        }
        int runs = rig.runs();
        rig.setTime(0);
        Check.fails("a wrong lap", IllegalArgumentException.class, () -> rig.phase(t, 0));
        Check.is("asks for nothing", runs, rig.runs());
        Check.is("and leaves it dirty", false, rig.isClean(t));
    }

    private static void wholes() {
        MotionRig rig = new MotionRig();
        int t = rig.addChannel('t', 0, 0, 0, 0);
        int k = constant(rig, 999);
        int cube = rig.addChannel('*', k, rig.addChannel('*', k, k, 0, 0), 0, 0);
        rig.setTime(-7);
        Check.is("-1.75", -1L, rig.whole(t));
        Check.is("it was run", 1, rig.runs());
        rig.setTime(7);
        Check.is("1.75", 1L, rig.whole(t));
        Check.is("by a float", (long) 997002999.0f, rig.whole(cube));
        Check.is("which is not the value", false, (long) 997002999.0f == 997002999L);
    }

    private static void shares() {
        MotionRig rig = new MotionRig();
        Check.fails("of none", ArithmeticException.class, () -> rig.cleanShare());
        int t = rig.addChannel('t', 0, 0, 0, 0);
        Check.is("of one dirty", 0.0f, rig.cleanShare());
        rig.addChannel('t', 0, 0, 0, 0);
        rig.addChannel('a', t, 0, 0, 0);
        rig.value(t);
        Check.is("one of three", 1.0f / 3.0f, rig.cleanShare());
        rig.value(1);
        Check.is("two of three", 2.0f / 3.0f, rig.cleanShare());
        rig.value(2);
        Check.is("all", 1.0f, rig.cleanShare());
        rig.addChannel('k', 0, 0, 0, 0);
        Check.is("three of four", 0.75f, rig.cleanShare());
        rig.setTime(1);
        Check.is("none", 0.0f, rig.cleanShare());
    }
}
