/** Promises 41 and 42: the gate, and what is played. */
public final class GateTest {
    private GateTest() {
    }

    public static void main(String[] args) {
        telling();
        playing();
        playingRuns();
        playingWrong();
        Check.end("GateTest");
    }

    private static void telling() {
        MotionRig rig = new MotionRig();
        Check.is("held, one", 0, rig.tell(true, false));
        Check.is("held, all", 0, rig.tell(true, true));
        Check.is("refused, one", 1, rig.tell(false, false));
        Check.is("refused, all", 2, rig.tell(false, true));
        Check.is("held again", 2, rig.tell(true, true));
        Check.is("of another rig", 1, new MotionRig().tell(false, true));
        Check.is("refused again", 3, rig.tell(false, false));
    }

    private static MotionRig rig() {
        MotionRig rig = new MotionRig();
        rig.addChannel('k', 0, 0, 0, 0);
        rig.addChannel('p', 0, 0, 3, 2);
        rig.addChannel('d', 1, 0, 7, 0);
        rig.addChannel('t', 0, 0, 0, 0);
        rig.addChannel('+', 2, 3, 0, 0);
        rig.setKey(0, 0, -10, 4, 'e');
        rig.setKey(0, 0, 5, -44, 'l');
        rig.setKey(0, 0, 50, 440, 's');
        rig.extend(0, 0, 'o', 'c');
        return rig;
    }

    private static void playing() {
        MotionRig rig = rig();
        for (int from = -400; from <= 360; from += 40) {
            Check.is("played from " + from, true, rig.isPlayed(4, from, from + 40));
        }
        for (int from = 360; from >= -400; from -= 40) {
            Check.is("played again from " + from, true, rig.isPlayed(1, from, from + 40));
        }
        rig.setTime(77);
        rig.value(1);
        rig.setKey(0, 0, 3, 5, 's');
        Check.is("behind another key", true, rig.isPlayed(1, 60, 100));
        rig.name(0, 'a');
        rig.override('a', -5);
        Check.is("behind an override", true, rig.isPlayed(2, 60, 100));
        rig.undo();
        Check.is("behind undoing", true, rig.isPlayed(2, 60, 100));
        Check.is("at the present time then", 77, rig.setTime(77));
    }

    private static void playingRuns() {
        MotionRig rig = rig();
        rig.setTime(10);
        rig.value(4);
        int runs = rig.runs();
        Check.is("three quarters", true, rig.isPlayed(4, 20, 22));
        Check.is("are run as by value()", runs + 9, rig.runs());
        Check.is("and then nothing is clean", 0.0f, rig.cleanShare());
        rig.value(4);
        runs = rig.runs();
        Check.is("the present time alone", true, rig.isPlayed(4, 10, 10));
        Check.is("is clean yet", runs, rig.runs());
        Check.is("and stays so", true, rig.isClean(4));
        Check.is("from the present time on", true, rig.isPlayed(4, 10, 11));
        Check.is("one of two is run", runs + 3, rig.runs());
        Check.is("and nothing is clean", false, rig.isClean(4));
        rig.value(4);
        runs = rig.runs();
        Check.is("up to the present time", true, rig.isPlayed(4, 9, 10));
        Check.is("both are run", runs + 6, rig.runs());
        Check.is("and it is clean", true, rig.isClean(4));
        Check.is("the time is the same", 10, rig.setTime(10));
    }

    private static void playingWrong() {
        MotionRig rig = rig();
        for (int bad : new int[] {5, -1, Integer.MAX_VALUE, Integer.MIN_VALUE}) {
            Check.fails("channel " + bad, IndexOutOfBoundsException.class, () -> rig.isPlayed(bad, 5, 4));
        }
        for (int bad : new int[] {401, -401, Integer.MAX_VALUE, Integer.MIN_VALUE}) {
            Check.fails("from " + bad, IllegalArgumentException.class, () -> rig.isPlayed(0, bad, 400));
            Check.fails("to " + bad, IllegalArgumentException.class, () -> rig.isPlayed(0, -400, bad));
            Check.fails("both " + bad, IllegalArgumentException.class, () -> rig.isPlayed(0, bad, bad));
        }
        Check.fails("-401 and 40 on", IllegalArgumentException.class, () -> rig.isPlayed(0, -401, -390));
        Check.fails("up to 401", IllegalArgumentException.class, () -> rig.isPlayed(0, 390, 401));
        Check.fails("the last one ahead", IllegalArgumentException.class, () -> rig.isPlayed(0, 5, 4));
        Check.fails("41 later", IllegalArgumentException.class, () -> rig.isPlayed(0, 5, 46));
        Check.fails("far later", IllegalArgumentException.class, () -> rig.isPlayed(0, -400, 400));
        Check.is("40 later", true, rig.isPlayed(0, 5, 45));
        Check.is("the time is the same", 0, rig.setTime(0));
        int runs = rig.runs();
        Check.fails("what fails", IllegalArgumentException.class, () -> rig.isPlayed(4, 5, 46));
        Check.is("runs nothing", runs, rig.runs());
    }
}
