import java.util.NoSuchElementException;

/** Promises 32 to 35: names, overrides, and those without a channel. */
public final class NamesTest {
    private static final char[] NO_LETTERS = {'`', '{', 'A', 'Z', '0', ' ', 0, 0xffff, 0x161};

    private NamesTest() {
    }

    public static void main(String[] args) {
        naming();
        namingWrong();
        overriding();
        overridingAllTimes();
        overridingWrong();
        dropping();
        orphans();
        dirtiness();
        namingDirties();
        Check.end("NamesTest");
    }

    private static void naming() {
        MotionRig rig = new MotionRig();
        int k = ChannelsTest.constant(rig, 1);
        int m = ChannelsTest.constant(rig, 2);
        Check.is("no name before", false, rig.name(k, 'a'));
        Check.is("the last letter", false, rig.name(m, 'z'));
        Check.is("a name before", true, rig.name(k, 'b'));
        Check.is("the same name again", true, rig.name(k, 'b'));
        Check.is("a name that is free again", true, rig.name(m, 'a'));
        rig.override('z', 5);
        Check.is("its name before names it no more", 2.0, rig.value(m));
        rig.override('a', 6);
        Check.is("its name does", 6.0, rig.value(m));
    }

    private static void namingWrong() {
        MotionRig rig = new MotionRig();
        int k = ChannelsTest.constant(rig, 1);
        int m = ChannelsTest.constant(rig, 2);
        rig.name(k, 'k');
        for (char bad : NO_LETTERS) {
            Check.fails("letter " + (int) bad, IllegalArgumentException.class, () -> rig.name(k, bad));
            Check.fails("channel ahead of letter", IndexOutOfBoundsException.class, () -> rig.name(2, bad));
        }
        for (int bad : new int[] {2, -1, 16, Integer.MAX_VALUE, Integer.MIN_VALUE}) {
            Check.fails("channel " + bad, IndexOutOfBoundsException.class, () -> rig.name(bad, 'k'));
        }
        Check.fails("a name of another one", UnsupportedOperationException.class, () -> rig.name(m, 'k'));
        Check.is("it has none yet", false, rig.name(m, 'm'));
        Check.fails("a name of another one", UnsupportedOperationException.class, () -> rig.name(k, 'm'));
        rig.override('k', 4);
        Check.is("it has its own yet", 4.0, rig.value(k));
    }

    private static void overriding() {
        MotionRig rig = new MotionRig();
        int k = ChannelsTest.constant(rig, 1);
        int t = rig.addChannel('t', 0, 0, 0, 0);
        int sum = rig.addChannel('+', k, t, 0, 0);
        rig.name(sum, 's');
        Check.is("one", 1, rig.override('s', 1000));
        Check.is("the same letter", 1, rig.override('s', -1000));
        Check.is("another one", 2, rig.override('a', 5));
        Check.is("a third one", 3, rig.override('z', 6));
        Check.is("its value", -1000.0, rig.value(sum));
        Check.is("is run", 1, rig.runs());
        Check.is("without its inputs", false, rig.isClean(k) || rig.isClean(t));
        Check.is("and is clean", true, rig.isClean(sum));
        rig.name(k, 'a');
        rig.override('s', 7);
        rig.dropOverride('s');
        Check.is("of an input", 5.0, rig.value(sum));
        rig.setTime(4);
        Check.is("at another time", 6.0, rig.value(sum));
        Check.is("no edit", true, rig.undo());
        Check.is("no edit", false, rig.undo());
        Check.is("the override is left", 6.0, rig.value(sum));
        Check.is("as a float", 1.0f, rig.phase(k, 2));
        Check.is("as a whole number", 5L, rig.whole(k));
        Check.is("turns a bone", 5, rig.direction(rig.addBone(-1, 8, k)));
    }

    private static void overridingAllTimes() {
        MotionRig rig = new MotionRig();
        int t = rig.addChannel('t', 0, 0, 0, 0);
        int late = rig.addChannel('d', t, 0, 100, 0);
        int spring = rig.addChannel('p', t, 0, 4, 4);
        rig.name(t, 't');
        rig.setTime(40);
        Check.is("ahead", -15.0, rig.value(late));
        rig.value(spring);
        rig.override('t', 3);
        Check.is("at all times, over 'd'", 3.0, rig.value(late));
        Check.is("at all times, over 'p'", 3.0, rig.value(spring));
        Check.is("at all times", 3.0, rig.valueAt(t, -400));
        Check.is("ahead of the frame 0", 3.0, rig.valueAt(spring, -7));
        rig.name(spring, 'p');
        rig.override('p', -8);
        Check.is("a spring", -8.0, rig.valueAt(spring, 7));
        Check.is("played", true, rig.isPlayed(spring, 0, 40));
        rig.dropOverride('p');
        rig.dropOverride('t');
        Check.is("as it was", -15.0, rig.value(late));
        Check.is("as it was", true, rig.value(spring) > 3.0);
        Check.is("the time", 10.0, rig.value(t));
    }

    private static void overridingWrong() {
        MotionRig rig = new MotionRig();
        for (char bad : NO_LETTERS) {
            Check.fails("letter " + (int) bad, IllegalArgumentException.class, () -> rig.override(bad, 0));
        }
        for (int bad : new int[] {1001, -1001, Integer.MAX_VALUE, Integer.MIN_VALUE}) {
            Check.fails("value " + bad, IllegalArgumentException.class, () -> rig.override('a', bad));
        }
        Check.is("nothing has changed", 1, rig.override('z', 0));
        int n = 1;
        for (char c = 'a'; c < 'z'; c++) {
            n++;
            Check.is("letter " + c, n, rig.override(c, c - 'm'));
        }
        Check.is("all of them", 26, rig.orphans());
    }

    private static void dropping() {
        MotionRig rig = new MotionRig();
        int k = ChannelsTest.constant(rig, 1);
        rig.name(k, 'k');
        Check.fails("none yet", NoSuchElementException.class, () -> rig.dropOverride('k'));
        for (char bad : NO_LETTERS) {
            Check.fails("letter " + (int) bad, NoSuchElementException.class, () -> rig.dropOverride(bad));
        }
        rig.override('k', -40);
        rig.override('a', 41);
        rig.value(k);
        Check.is("its value", -40, rig.dropOverride('k'));
        Check.is("it is dirty", false, rig.isClean(k));
        Check.is("its own value", 1.0, rig.value(k));
        Check.fails("none any more", NoSuchElementException.class, () -> rig.dropOverride('k'));
        Check.is("of an orphan", 41, rig.dropOverride('a'));
        Check.is("makes nothing dirty", true, rig.isClean(k));
        Check.is("counted anew", 1, rig.override('k', 0));
    }

    private static void orphans() {
        MotionRig rig = new MotionRig();
        int k = ChannelsTest.constant(rig, 1);
        Check.is("none", 0, rig.orphans());
        rig.name(k, 'k');
        Check.is("a name alone is none", 0, rig.orphans());
        rig.override('k', 1);
        Check.is("a channel has this name", 0, rig.orphans());
        rig.override('a', 1);
        rig.override('b', 1);
        Check.is("no channel has these names", 2, rig.orphans());
        rig.name(k, 'a');
        Check.is("the one before hangs in the air", 2, rig.orphans());
        rig.name(k, 'c');
        Check.is("all hang in the air", 3, rig.orphans());
        rig.dropOverride('b');
        Check.is("one is dropped", 2, rig.orphans());
        rig.name(ChannelsTest.constant(rig, 4), 'k');
        Check.is("another channel takes one", 1, rig.orphans());
        Check.is("asking tells the same", 1, rig.orphans());
    }

    private static void dirtiness() {
        MotionRig rig = new MotionRig();
        int k = ChannelsTest.constant(rig, 1);
        int late = rig.addChannel('d', k, 0, 4, 0);
        int other = ChannelsTest.constant(rig, 1);
        rig.name(k, 'k');
        ask(rig);
        rig.override('a', 7);
        Check.is("an orphan makes nothing dirty", 1.0f, rig.cleanShare());
        rig.override('k', 7);
        Check.is("the channel and what depends on it", false, rig.isClean(k) || rig.isClean(late));
        Check.is("and nothing else", true, rig.isClean(other));
        ask(rig);
        rig.override('k', 7);
        Check.is("setting it again, too", false, rig.isClean(k) || rig.isClean(late));
        ask(rig);
        Check.fails("what fails", IllegalArgumentException.class, () -> rig.override('k', 1001));
        Check.is("makes nothing dirty", 1.0f, rig.cleanShare());
    }

    private static void ask(MotionRig rig) {
        for (int c = 0; c < 3; c++) {
            rig.value(c);
        }
    }

    private static void namingDirties() {
        MotionRig rig = new MotionRig();
        int k = ChannelsTest.constant(rig, 1);
        int late = rig.addChannel('d', k, 0, 4, 0);
        rig.addChannel('t', 0, 0, 0, 0);
        rig.override('o', 5);
        ask(rig);
        rig.name(k, 'a');
        rig.name(k, 'b');
        Check.is("names without overrides", 1.0f, rig.cleanShare());
        rig.name(k, 'o');
        Check.is("its new one has an override", false, rig.isClean(k) || rig.isClean(late));
        Check.is("at once", 5.0, rig.value(late));
        ask(rig);
        rig.name(k, 'o');
        Check.is("the same one", false, rig.isClean(k) || rig.isClean(late));
        ask(rig);
        rig.name(k, 'a');
        Check.is("its name before has one", false, rig.isClean(k) || rig.isClean(late));
        Check.is("but nothing else", true, rig.isClean(2));
        Check.is("its own value", 1.0, rig.value(k));
    }
}
