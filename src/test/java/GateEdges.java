/** The paragraph 'Gate' of the document, and promises 41 and 42. */
final class GateEdges {
    private GateEdges() {
    }

    static void run() {
        telling();
        playing();
        playedLikeCalls();
        playingRefused();
    }

    private static void telling() {
        Edge.holds("Gate", "The table of channels has a gate; whoever holds it may tell those that wait, whoever does "
            + "not is refused; nobody ever waits.");
        MotionRig rig = House.furnished();
        Edge.is("refused once so far", 1, rig.tell(true, true));
        Edge.is("held", 1, rig.tell(true, false));
        Edge.is("not held", 2, rig.tell(false, false));
        Edge.is("not held, all", 3, rig.tell(false, true));
        Edge.holds("Promise 41", "`isHeld`: whether the gate is held", "`isAll`: whether all are told",
            "Returns how often this was refused so far.");
        MotionRig many = new MotionRig();
        for (int i = 1; i <= 250; i++) {
            Edge.is("refused", i, many.tell(false, i % 3 == 0));
            Edge.is("not refused", i, many.tell(true, i % 3 == 0));
        }
        MotionRig told = House.furnished();
        told.tell(true, true);
        Edge.is("telling changes nothing else", Looks.of(House.furnished()), Looks.of(told));
    }

    private static MotionRig springs() {
        MotionRig rig = House.curve('e', -100, -1000, 5, 1000, 60, 3);
        rig.extend(0, 0, 'o', 'o');
        rig.addChannel('p', 0, 0, 8, 1);
        rig.addChannel('d', 1, 0, 100, 0);
        rig.addChannel('p', 2, 0, 1, 8);
        return rig;
    }

    private static void playing() {
        Edge.holds("Promise 42", "`channel`: the number of the channel", "`from`: the first time",
            "`to`: the last time, up to 40 later", "Returns whether it has.");
        int[][] rows = {{-400, -400}, {-400, -399}, {-400, -360}, {360, 400}, {361, 400}, {400, 400}, {-20, 20},
            {0, 40}, {-40, 0}, {0, 0}, {3, 43}};
        MotionRig rig = springs();
        for (int[] row : rows) {
            for (int c = 0; c < 4; c++) {
                Edge.is("channel " + c + " from " + row[0] + " to " + row[1], true, rig.isPlayed(c, row[0], row[1]));
            }
        }
        Edge.is("the present time then", 0, rig.setTime(-400));
        rig.setKey(0, 0, 100, 900, 's');
        Edge.is("behind another key", true, rig.isPlayed(3, 360, 400));
        Edge.is("the present time then", -400, rig.setTime(-400));
    }

    private static void playedLikeCalls() {
        Edge.holds("Promise 42", "as if by setTime() and value() for each quarter from one time to another one, in "
            + "turn, compared with valueAt(), and then setTime() to the present time.");
        int[][] rows = {{0, 0, 0}, {0, 0, 40}, {0, -40, 0}, {20, 0, 40}, {40, 0, 40}, {-400, 360, 400}, {7, 7, 7},
            {7, 8, 8}, {7, 6, 8}};
        for (int[] row : rows) {
            MotionRig rig = springs();
            MotionRig twin = springs();
            for (MotionRig each : new MotionRig[] {rig, twin}) {
                each.setTime(row[0]);
                each.value(3);
                each.value(0);
            }
            Edge.is("played", true, rig.isPlayed(3, row[1], row[2]));
            for (int time = row[1]; time <= row[2]; time++) {
                twin.setTime(time);
                twin.value(3);
            }
            twin.setTime(row[0]);
            Edge.is("from " + row[1] + " to " + row[2] + " at " + row[0], Looks.of(twin), Looks.of(rig));
        }
    }

    private static void playingRefused() {
        Edge.holds("Promise 42", "Throws `IndexOutOfBoundsException` if there is no such channel");
        Edge.refusedFor(House.NO_CHANNEL, Edge.INDEX, (rig, c) -> rig.isPlayed(c, 0, 0));
        Edge.holds("Promise 42", "Throws `IllegalArgumentException` if a time is out of range, or the last one is "
            + "ahead of the first one or more than 40 later");
        Edge.refusedFor(Edge.beside(-400, 400), Edge.ARGUMENT, (rig, time) -> rig.isPlayed(0, time, time));
        Edge.refusedFor(Edge.beside(-400, 400), Edge.ARGUMENT, (rig, from) -> rig.isPlayed(0, from, -400));
        Edge.refusedFor(Edge.beside(-400, 400), Edge.ARGUMENT, (rig, from) -> rig.isPlayed(0, from, 400));
        Edge.refusedFor(Edge.beside(-400, 400), Edge.ARGUMENT, (rig, to) -> rig.isPlayed(0, 400, to));
        Edge.refusedFor(Edge.beside(-400, 400), Edge.ARGUMENT, (rig, to) -> rig.isPlayed(0, -400, to));
        int[][] rows = {{0, -1}, {400, -400}, {1, 0}, {0, 41}, {-400, -359}, {359, 400}, {-400, 400}, {-20, 21},
            {Edge.LEAST_INT, Edge.MOST_INT}, {Edge.MOST_INT, Edge.LEAST_INT}, {0, Edge.MOST_INT},
            {Edge.LEAST_INT, 0}};
        for (int[] row : rows) {
            Edge.refused("from " + row[0] + " to " + row[1], Edge.ARGUMENT, rig -> rig.isPlayed(0, row[0], row[1]));
        }
        Edge.holds("Exceptions", "If several exceptions apply, the one that is documented first is thrown.");
        Edge.refused("isPlayed: no channel, no time", Edge.INDEX, rig -> rig.isPlayed(7, 401, 0));
        Edge.refused("isPlayed: no channel, the last one ahead", Edge.INDEX, rig -> rig.isPlayed(-1, 1, 0));
        Edge.refused("isPlayed: no channel, too long", Edge.INDEX, rig -> rig.isPlayed(7, 0, 41));
    }
}
