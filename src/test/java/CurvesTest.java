import java.util.NoSuchElementException;

/** Promises 4 to 9 and 44: keys, the curves through them, their ends, and the mean number of keys. */
public final class CurvesTest {
    private static final int[] NO_NUMBERS = {-1, 2, 16, Integer.MAX_VALUE, Integer.MIN_VALUE};

    private CurvesTest() {
    }

    public static void main(String[] args) {
        setting();
        settingWrong();
        removing();
        apart();
        reading();
        steps();
        lines();
        eases();
        fewKeys();
        endsThatHold();
        endsThatGoRound();
        extending();
        extendingWrong();
        means();
        Check.end("CurvesTest");
    }

    private static MotionRig rig() {
        MotionRig rig = new MotionRig();
        rig.addChannel('k', 0, 0, 0, 0);
        rig.addChannel('t', 0, 0, 0, 0);
        return rig;
    }

    private static void setting() {
        MotionRig rig = rig();
        Check.is("the first key", 1, rig.setKey(0, 0, 5, 50, 's'));
        Check.is("a later one", 2, rig.setKey(0, 0, 100, 1000, 'l'));
        Check.is("an earlier one", 3, rig.setKey(0, 0, -100, -1000, 'e'));
        Check.is("in place of one", 3, rig.setKey(0, 0, 5, 51, 'l'));
        Check.is("its value", 51, rig.keyValue(0, 0, 1));
        Check.is("its value now", 51.0, rig.valueAt(0, 20));
        for (int i = 0; i < 17; i++) {
            Check.is("one more", 4 + i, rig.setKey(0, 0, 10 + i, i, 's'));
        }
        Check.fails("the 21st", IllegalStateException.class, () -> rig.setKey(0, 0, 50, 1, 's'));
        Check.is("in place of one of 20", 20, rig.setKey(0, 0, 26, -16, 'e'));
        Check.is("still 20", 20, rig.keys(0, 0));
        rig.addLayer('+');
        Check.is("another layer is another curve", 1, rig.setKey(0, 1, 50, 1, 's'));
    }

    private static void settingWrong() {
        MotionRig rig = rig();
        for (int bad : NO_NUMBERS) {
            Check.fails("channel " + bad, IndexOutOfBoundsException.class, () -> rig.setKey(bad, 0, 101, 0, 's'));
            Check.fails("layer " + bad, IndexOutOfBoundsException.class, () -> rig.setKey(0, bad, 0, 1001, 's'));
        }
        Check.fails("layer 1", IndexOutOfBoundsException.class, () -> rig.setKey(0, 1, 0, 0, '?'));
        for (int bad : new int[] {-101, 101, Integer.MAX_VALUE, Integer.MIN_VALUE}) {
            Check.fails("frame " + bad, IllegalArgumentException.class, () -> rig.setKey(0, 0, bad, 0, 's'));
            Check.fails("value " + bad * 10, IllegalArgumentException.class,
                () -> rig.setKey(0, 0, 0, bad > 0 ? Math.max(bad, 1001) : Math.min(bad, -1001), 's'));
        }
        for (char bad : new char[] {'x', 'h', 'S', 'k', 0, 0x173}) {
            Check.fails("kind " + (int) bad, IllegalArgumentException.class, () -> rig.setKey(0, 0, 0, 0, bad));
        }
        Check.fails("kind ahead of channel", IllegalArgumentException.class, () -> rig.setKey(1, 0, 0, 0, 'x'));
        Check.fails("frame ahead of channel", IllegalArgumentException.class, () -> rig.setKey(1, 0, 101, 0, 's'));
        Check.fails("'t' has no keys", UnsupportedOperationException.class, () -> rig.setKey(1, 0, 0, 0, 's'));
        for (int i = 0; i < 20; i++) {
            rig.setKey(0, 0, i, 0, 's');
        }
        Check.fails("value ahead of the 21st", IllegalArgumentException.class, () -> rig.setKey(0, 0, 50, 1001, 's'));
        Check.is("nothing has changed", 20, rig.keys(0, 0));
    }

    private static void removing() {
        MotionRig rig = rig();
        rig.setKey(0, 0, -3, 30, 's');
        rig.setKey(0, 0, 0, -7, 's');
        rig.setKey(0, 0, 3, 1000, 's');
        Check.is("its value", -7, rig.removeKey(0, 0, 0));
        Check.is("two are left", 2, rig.keys(0, 0));
        Check.is("the later one moves up", 3, rig.keyAt(0, 0, 1));
        Check.is("its value moves up", 1000, rig.keyValue(0, 0, 1));
        Check.fails("it is gone", NoSuchElementException.class, () -> rig.removeKey(0, 0, 0));
        for (int bad : new int[] {-4, 4, -101, 101, 65536 - 3, Integer.MAX_VALUE, Integer.MIN_VALUE}) {
            Check.fails("no key at " + bad, NoSuchElementException.class, () -> rig.removeKey(0, 0, bad));
        }
        for (int bad : NO_NUMBERS) {
            Check.fails("channel " + bad, IndexOutOfBoundsException.class, () -> rig.removeKey(bad, 0, 3));
            Check.fails("layer " + bad, IndexOutOfBoundsException.class, () -> rig.removeKey(0, bad, 3));
        }
        Check.fails("'t' has no keys", NoSuchElementException.class, () -> rig.removeKey(1, 0, 0));
        Check.is("the first one", 30, rig.removeKey(0, 0, -3));
        Check.is("the last one", 1000, rig.removeKey(0, 0, 3));
        Check.is("none is left", 0, rig.keys(0, 0));
        Check.is("and the value is 0", 0.0, rig.value(0));
    }

    /** Keys of one curve are none of the next one, full or not. */
    private static void apart() {
        MotionRig rig = rig();
        rig.addLayer('+');
        rig.setKey(0, 1, 5, 1, 's');
        Check.fails("of the next layer", NoSuchElementException.class, () -> rig.removeKey(0, 0, 5));
        for (int i = 0; i < 20; i++) {
            rig.setKey(0, 0, 10 + i, i, 's');
        }
        Check.fails("of the next layer, behind 20", NoSuchElementException.class, () -> rig.removeKey(0, 0, 5));
        Check.fails("not in place of it", IllegalStateException.class, () -> rig.setKey(0, 0, 5, 1, 's'));
        Check.fails("not beside it", IllegalStateException.class, () -> rig.bake(0, 0, 5, 6));
        Check.is("nor counted", 20, rig.bake(0, 0, 10, 29));
        rig.removeKey(0, 0, 12);
        Check.is("nor counted when it has room", 20, rig.bake(0, 0, 12, 12));
        Check.is("nor moved", 1, rig.keys(0, 1));
        Check.fails("nor read", NoSuchElementException.class, () -> rig.keyAt(0, 0, 20));
        Check.is("twenty and one", 10.5, rig.meanKeys());
    }

    private static void reading() {
        MotionRig rig = rig();
        Check.is("none at first", 0, rig.keys(0, 0));
        int[] frames = {7, -100, 0, 100, -7};
        for (int f : frames) {
            rig.setKey(0, 0, f, f * 3, 's');
        }
        int[] rising = {-100, -7, 0, 7, 100};
        for (int i = 0; i < rising.length; i++) {
            Check.is("frame " + i, rising[i], rig.keyAt(0, 0, i));
            Check.is("value " + i, rising[i] * 3, rig.keyValue(0, 0, i));
        }
        for (int bad : new int[] {5, -1, 20, Integer.MAX_VALUE, Integer.MIN_VALUE}) {
            Check.fails("key " + bad, NoSuchElementException.class, () -> rig.keyAt(0, 0, bad));
            Check.fails("value " + bad, NoSuchElementException.class, () -> rig.keyValue(0, 0, bad));
            Check.fails("channel ahead of key", IndexOutOfBoundsException.class, () -> rig.keyAt(2, 0, bad));
            Check.fails("layer ahead of key", IndexOutOfBoundsException.class, () -> rig.keyValue(0, 1, bad));
        }
        for (int bad : NO_NUMBERS) {
            Check.fails("keys of channel " + bad, IndexOutOfBoundsException.class, () -> rig.keys(bad, 0));
            Check.fails("keys of layer " + bad, IndexOutOfBoundsException.class, () -> rig.keys(0, bad));
            Check.fails("frame in layer " + bad, IndexOutOfBoundsException.class, () -> rig.keyAt(0, bad, 0));
            Check.fails("value in channel " + bad, IndexOutOfBoundsException.class, () -> rig.keyValue(bad, 0, 0));
        }
        Check.is("other kinds have none", 0, rig.keys(1, 0));
        Check.fails("not even a first one", NoSuchElementException.class, () -> rig.keyAt(1, 0, 0));
        Check.fails("nor its value", NoSuchElementException.class, () -> rig.keyValue(1, 0, 0));
        Check.is("reading runs nothing", 0, rig.runs());
    }

    private static void steps() {
        MotionRig rig = rig();
        rig.setKey(0, 0, 2, 5, 's');
        rig.setKey(0, 0, 4, -9, 's');
        rig.setKey(0, 0, 5, 100, 'l');
        Check.is("at the first key", 5.0, rig.valueAt(0, 8));
        Check.is("between", 5.0, rig.valueAt(0, 15));
        Check.is("at the second one", -9.0, rig.valueAt(0, 16));
        Check.is("between", -9.0, rig.valueAt(0, 19));
        Check.is("at the last one", 100.0, rig.valueAt(0, 20));
    }

    private static void lines() {
        MotionRig rig = rig();
        rig.setKey(0, 0, 0, 1, 'l');
        rig.setKey(0, 0, 3, 11, 's');
        rig.setKey(0, 0, 6, -1000, 's');
        for (int at = 0; at < 12; at++) {
            double u = at / 4.0 / 3.0;
            Check.is("a line at " + at, 1.0 + 10.0 * u, rig.valueAt(0, at));
        }
        Check.is("the kind of the second key does not count", 11.0, rig.valueAt(0, 12));
    }

    private static void eases() {
        MotionRig rig = rig();
        rig.setKey(0, 0, -7, -20, 'e');
        rig.setKey(0, 0, 0, 30, 'l');
        for (int at = -28; at < 0; at++) {
            double u = (at / 4.0 + 7.0) / 7.0;
            Check.is("an ease at " + at, -20.0 + 50.0 * (u * u * (3.0 - 2.0 * u)), rig.valueAt(0, at));
        }
        Check.is("at its end", 30.0, rig.valueAt(0, 0));
    }

    private static void fewKeys() {
        MotionRig rig = rig();
        Check.is("without keys", 0.0, rig.valueAt(0, 17));
        rig.extend(0, 0, 'o', 'o');
        Check.is("without keys, whatever the ends", 0.0, rig.valueAt(0, -400));
        rig.setKey(0, 0, 10, -77, 'e');
        for (int at : new int[] {-400, 39, 40, 41, 400}) {
            Check.is("with one key", -77.0, rig.valueAt(0, at));
        }
    }

    private static MotionRig ramp(char before, char after) {
        MotionRig rig = rig();
        rig.setKey(0, 0, 2, 3, 'l');
        rig.setKey(0, 0, 5, 30, 's');
        rig.setKey(0, 0, 6, 7, 'l');
        rig.extend(0, 0, before, after);
        return rig;
    }

    private static void endsThatHold() {
        MotionRig rig = ramp('h', 'h');
        Check.is("ahead", 3.0, rig.valueAt(0, 7));
        Check.is("far ahead", 3.0, rig.valueAt(0, -400));
        Check.is("behind", 7.0, rig.valueAt(0, 25));
        Check.is("far behind", 7.0, rig.valueAt(0, 400));
        MotionRig fresh = rig();
        fresh.setKey(0, 0, 0, 4, 'l');
        fresh.setKey(0, 0, 1, 9, 'l');
        Check.is("held at first, ahead", 4.0, fresh.valueAt(0, -9));
        Check.is("held at first, behind", 9.0, fresh.valueAt(0, 9));
    }

    private static void endsThatGoRound() {
        MotionRig inner = ramp('h', 'h');
        MotionRig c = ramp('c', 'c');
        MotionRig o = ramp('o', 'o');
        for (int at = -400; at <= 400; at += Math.abs(at) < 60 ? 1 : 3) {
            if (at >= 8 && at <= 24) {
                Check.is("within", inner.valueAt(0, at), c.valueAt(0, at));
                Check.is("within", inner.valueAt(0, at), o.valueAt(0, at));
                continue;
            }
            int n = Math.floorDiv(at - 8, 16);
            double base = inner.valueAt(0, at - 16 * n);
            Check.is("round at " + at, base, c.valueAt(0, at));
            Check.is("round and on at " + at, base + n * (7.0 - 3.0), o.valueAt(0, at));
        }
        Check.is("the last key itself", 7.0, c.valueAt(0, 24));
        Check.is("one length behind is the first key", 3.0, c.valueAt(0, 40));
        Check.is("and on", 3.0 + 2 * 4.0, o.valueAt(0, 40));
        Check.is("a quarter behind the last key", 3.0 + 27.0 * (0.25 / 3.0) + 4.0, o.valueAt(0, 25));
        MotionRig mixed = ramp('c', 'h');
        Check.is("ahead by the first end", 30.0, mixed.valueAt(0, 7));
        Check.is("behind by the second one", 7.0, mixed.valueAt(0, 41));
        MotionRig other = ramp('h', 'o');
        Check.is("ahead by the first end", 3.0, other.valueAt(0, -8));
        Check.is("behind by the second one", 7.0, other.valueAt(0, 24));
        Check.is("behind by the second one", 7.0 + 4.0 - 4.0, other.valueAt(0, 24));
    }

    private static void extending() {
        MotionRig rig = rig();
        rig.addLayer('+');
        rig.setKey(0, 0, 0, 1, 'l');
        rig.setKey(0, 0, 1, 2, 'l');
        int d = rig.addChannel('d', 0, 0, 1, 0);
        Check.is("held at first", 'h', rig.extend(0, 0, 'c', 'o'));
        Check.is("the end ahead, as it was", 'c', rig.extend(0, 0, 'o', 'h'));
        Check.is("of this curve", 'h', rig.extend(0, 1, 'c', 'c'));
        rig.value(0);
        rig.value(d);
        rig.value(1);
        Check.is("the same ends", 'o', rig.extend(0, 0, 'o', 'h'));
        Check.is("leave it clean", true, rig.isClean(0));
        rig.extend(0, 0, 'o', 'c');
        Check.is("another one behind makes it dirty", false, rig.isClean(0));
        Check.is("and what depends on it", false, rig.isClean(d));
        Check.is("and nothing else", true, rig.isClean(1));
        rig.value(d);
        rig.extend(0, 0, 'h', 'c');
        Check.is("another one ahead does, too", false, rig.isClean(d));
        Check.is("ends are no edit", 2, countUndos(rig));
        Check.is("and stay when keys are undone", 'h', rig.extend(0, 0, 'h', 'h'));
    }

    private static int countUndos(MotionRig rig) {
        int n = 0;
        while (n < 30 && rig.undo()) {
            n++;
        }
        return n;
    }

    private static void extendingWrong() {
        MotionRig rig = rig();
        for (int bad : NO_NUMBERS) {
            Check.fails("channel " + bad, IndexOutOfBoundsException.class, () -> rig.extend(bad, 0, '?', 'h'));
            Check.fails("layer " + bad, IndexOutOfBoundsException.class, () -> rig.extend(0, bad, 'h', '?'));
        }
        for (char bad : new char[] {'x', 'H', 's', 0, 0x168}) {
            Check.fails("ahead " + (int) bad, IllegalArgumentException.class, () -> rig.extend(0, 0, bad, 'h'));
            Check.fails("behind " + (int) bad, IllegalArgumentException.class, () -> rig.extend(0, 0, 'c', bad));
            Check.fails("end ahead of channel", IllegalArgumentException.class, () -> rig.extend(1, 0, 'h', bad));
        }
        Check.fails("'t' has no ends", UnsupportedOperationException.class, () -> rig.extend(1, 0, 'h', 'h'));
        Check.is("nothing has changed", 'h', rig.extend(0, 0, 'h', 'h'));
    }

    private static void means() {
        MotionRig rig = rig();
        Check.fails("of none", ArithmeticException.class, () -> rig.meanKeys());
        rig.addLayer('o');
        rig.setKey(0, 0, 1, 1, 's');
        rig.setKey(0, 0, 2, 1, 's');
        Check.is("one curve", 2.0, rig.meanKeys());
        rig.setKey(0, 1, 2, 1, 's');
        Check.is("two curves of one channel", 1.5, rig.meanKeys());
        int k = rig.addChannel('k', 0, 0, 0, 0);
        Check.is("but those without keys", 1.5, rig.meanKeys());
        rig.setKey(k, 1, 2, 1, 's');
        Check.is("three curves", 4.0 / 3.0, rig.meanKeys());
        rig.mute(1, true);
        Check.is("muted or not", 4.0 / 3.0, rig.meanKeys());
        rig.removeKey(k, 1, 2);
        rig.removeKey(0, 1, 2);
        rig.removeKey(0, 0, 2);
        Check.is("one is left", 1.0, rig.meanKeys());
        rig.removeKey(0, 0, 1);
        Check.fails("none is left", ArithmeticException.class, () -> rig.meanKeys());
    }
}
