/** The paragraphs 'Times' and 'Channels' of the document, and promises 1 to 3. */
final class ChannelEdges {
    private static final String KINDS = "kt+-*%xnasrfcdp";
    private static final double BOUND = 1000000000.0;

    private ChannelEdges() {
    }

    static void run() {
        times();
        framesAsTimes();
        operations();
        boundsOfSums();
        boundsOfProducts();
        boundsOfOthers();
        sixteen();
        kindsWithoutInputs();
        sums();
        remainders();
        greaterAndLesser();
        kindsOfOne();
        delays();
        noNegativeZero();
        noCircle();
        newObject();
        addingKinds();
        addingInputs();
        addingNumbers();
        addingRefused();
        rejoining();
        rejoiningRefused();
    }

    private static void times() {
        Edge.holds("Times", "A time is a number of quarters of a frame, from -400 to 400");
        for (int time : Edge.within(-400, 400)) {
            MotionRig rig = House.row("t");
            Edge.is("setTime of " + time, 0, rig.setTime(time));
            Edge.is("the present time " + time, time / 4.0, rig.value(0));
            Edge.is("valueAt " + time, time / 4.0, rig.valueAt(0, time));
            Edge.is("isPlayed at " + time, true, rig.isPlayed(0, time, time));
            Edge.is("and it is the present one yet", time, rig.setTime(0));
        }
        for (int time : Edge.beside(-400, 400)) {
            Edge.refused("setTime of " + time, Edge.ARGUMENT, rig -> rig.setTime(time));
            Edge.refused("valueAt " + time, Edge.ARGUMENT, rig -> rig.valueAt(0, time));
            Edge.refused("isPlayed at " + time, Edge.ARGUMENT, rig -> rig.isPlayed(0, time, time));
        }
        Edge.holds("Times", "The present time is 0 at first.");
        Edge.is("value", 0.0, House.row("t").value(0));
        Edge.is("setTime", 0, new MotionRig().setTime(400));
    }

    private static void framesAsTimes() {
        Edge.holds("Times", "the frame f is the time 4 f.");
        for (int frame : new int[] {-100, -99, -1, 0, 1, 99, 100}) {
            MotionRig rig = House.curve('s', frame, 700);
            rig.setKey(0, 0, frame == -100 ? 100 : -100, -5, 's');
            Edge.is("a key at " + frame, 700.0, rig.valueAt(0, 4 * frame));
            double ahead = frame == -100 ? 700.0 : -5.0;
            Edge.is("a quarter ahead of " + frame, ahead, rig.valueAt(0, Math.max(4 * frame - 1, -400)));
        }
    }

    private static void operations() {
        Edge.holds("Times", "All values are doubles, and are reckoned by the operations of doubles as they are told, "
            + "from left to right where nothing else is told.");
        MotionRig rig = House.curve('l', 0, -7, 49, 3);
        int unlike = 0;
        for (int time = 0; time < 196; time++) {
            double u = time / 4.0 / 49.0;
            Edge.is("as told at " + time, -7.0 + (3.0 - -7.0) * u, rig.valueAt(0, time));
            unlike += -7.0 * (1.0 - u) + 3.0 * u == -7.0 + 10.0 * u ? 0 : 1;
        }
        Edge.is("another order would answer otherwise", true, unlike > 0);
        MotionRig spring = House.row("tp");
        Edge.is("a sum of three, from the left", ((0.0 + (1.0 - 0.0) * 0.125) - 0.0 * 0.125) + 0.0,
            spring.valueAt(1, 4));
    }

    /** Channels: 0 has 1000, 1 a million, 2 the bound, 3 minus the bound, 4 the time in frames, 5 has -1. */
    private static MotionRig greatOnes() {
        MotionRig rig = new MotionRig();
        House.constant(rig, 1000);
        rig.addChannel('*', 0, 0, 0, 0);
        rig.addChannel('*', 1, 0, 0, 0);
        int minus = House.constant(rig, -1);
        rig.addChannel('*', 2, minus, 0, 0);
        rig.addChannel('t', 0, 0, 0, 0);
        return rig;
    }

    private static void boundsOfSums() {
        Edge.holds("Times", "A value that would be greater than 1000000000 or less than -1000000000 by the operation "
            + "of a channel is this bound.");
        MotionRig rig = greatOnes();
        int above = rig.addChannel('+', 2, 5, 0, 0);
        int less = rig.addChannel('-', 2, 5, 0, 0);
        int below = rig.addChannel('+', 4, 5, 0, 0);
        int more = rig.addChannel('-', 4, 5, 0, 0);
        int twice = rig.addChannel('+', 2, 2, 0, 0);
        int minusTwice = rig.addChannel('-', 4, 2, 0, 0);
        Edge.is("the bound itself", BOUND, rig.valueAt(2, 0));
        Edge.is("minus the bound itself", -BOUND, rig.valueAt(4, 0));
        for (int time : new int[] {-400, -4, -1, 0, 1, 4, 400}) {
            double frames = time / 4.0;
            Edge.is("bound + " + frames, Math.min(BOUND, BOUND + frames), rig.valueAt(above, time));
            Edge.is("bound - " + frames, Math.min(BOUND, BOUND - frames), rig.valueAt(less, time));
            Edge.is("-bound + " + frames, Math.max(-BOUND, -BOUND + frames), rig.valueAt(below, time));
            Edge.is("-bound - " + frames, Math.max(-BOUND, -BOUND - frames), rig.valueAt(more, time));
        }
        rig.setTime(1);
        Edge.is("a quarter too much at the present time", BOUND, rig.value(above));
        Edge.is("a quarter less at the present time", BOUND - 0.25, rig.value(less));
        Edge.is("a quarter too little at the present time", -BOUND, rig.value(more));
        Edge.is("a quarter more at the present time", -BOUND + 0.25, rig.value(below));
        Edge.is("both bounds", BOUND, rig.value(twice));
        Edge.is("both bounds below", -BOUND, rig.value(minusTwice));
    }

    private static void boundsOfProducts() {
        Edge.holds("Times", "A value that would be greater than 1000000000 or less than -1000000000");
        MotionRig rig = greatOnes();
        int square = rig.addChannel('*', 2, 2, 0, 0);
        int minusSquare = rig.addChannel('*', 2, 4, 0, 0);
        int again = rig.addChannel('*', 4, 4, 0, 0);
        int million = rig.addChannel('*', 1, 5, 0, 0);
        Edge.is("bound * bound", BOUND, rig.value(square));
        Edge.is("bound * -bound", -BOUND, rig.value(minusSquare));
        Edge.is("-bound * -bound", BOUND, rig.value(again));
        int rest = rig.addChannel('-', square, 0, 0, 0);
        Edge.is("what is held goes on from the bound", BOUND - 1000.0, rig.value(rest));
        for (int time : new int[] {-400, -399, -1, 0, 1, 399, 400}) {
            Edge.is("a million times " + time / 4.0, 1000000.0 * (time / 4.0) + 0.0, rig.valueAt(million, time));
        }
        MotionRig fine = greatOnes();
        int near = House.constant(fine, 999);
        int product = fine.addChannel('*', 1, near, 0, 0);
        int sum = fine.addChannel('+', product, 1, 0, 0);
        int over = fine.addChannel('+', sum, near, 0, 0);
        Edge.is("999 millions are not held", 999000000.0, fine.value(product));
        Edge.is("nor 1000 millions", BOUND, fine.value(sum));
        Edge.is("but 999 more are", BOUND, fine.value(over));
    }

    private static void boundsOfOthers() {
        Edge.holds("Times", "by the operation of a channel is this bound.");
        MotionRig rig = greatOnes();
        String kinds = "asrfcdp";
        for (int i = 0; i < kinds.length(); i++) {
            double[] due = {BOUND, 1.0, BOUND, BOUND, BOUND, BOUND, BOUND};
            double[] dueBelow = {BOUND, -1.0, -BOUND, -BOUND, -BOUND, -BOUND, -BOUND};
            MotionRig one = greatOnes();
            int c = one.addChannel(kinds.charAt(i), 2, 0, 8, 0);
            int d = one.addChannel(kinds.charAt(i), 4, 0, 8, 0);
            Edge.is(kinds.charAt(i) + " of the bound", due[i], one.value(c));
            Edge.is(kinds.charAt(i) + " of minus the bound", dueBelow[i], one.value(d));
        }
        Edge.is("the greater bound", BOUND, rig.value(rig.addChannel('x', 2, 4, 0, 0)));
        Edge.is("the lesser bound", -BOUND, rig.value(rig.addChannel('n', 2, 4, 0, 0)));
        Edge.is("a bound modulo the other one", 0.0, rig.value(rig.addChannel('%', 4, 2, 0, 0)));
        int seven = House.constant(rig, 7);
        Edge.is("minus a bound modulo 7", -BOUND % 7.0, rig.value(rig.addChannel('%', 4, seven, 0, 0)));
    }

    private static void sixteen() {
        Edge.holds("Channels", "At most 16 channels are numbered from 0, with a kind each, and up to two inputs, "
            + "which are other channels.");
        MotionRig rig = new MotionRig();
        for (int i = 0; i < 16; i++) {
            Edge.is("the number", i, rig.addChannel(i == 0 ? 't' : '+', i - 1, 0, 0, 0));
            int next = i + 1;
            Edge.is("no next one", "throws IndexOutOfBoundsException", () -> rig.value(next));
        }
        rig.setTime(4);
        Edge.is("the last one", 16.0, rig.value(15));
        Edge.is("all are clean", 1.0f, rig.cleanShare());
        Edge.is("16 runs", 16, rig.runs());
        for (int i = 0; i < KINDS.length(); i++) {
            char kind = KINDS.charAt(i);
            Edge.refused(ChannelEdges::full, "a 17th of the kind " + kind, Edge.STATE,
                r -> r.addChannel(kind, 0, 15, 1, 0));
        }
        Edge.refused("an input that is itself", Edge.INDEX,
            r -> r.addChannel('a', House.CHANNELS, 0, 0, 0));
    }

    private static MotionRig full() {
        return House.row("taaaaaaaaaaaaaaa");
    }

    private static void kindsWithoutInputs() {
        Edge.holds("Channels", "'k': by its curves, as told below.");
        Edge.is("without a key", 0.0, House.row("k").value(0));
        Edge.is("with the greatest value", 1000.0, House.curve('s', 0, 1000).value(0));
        Edge.is("with the least value", -1000.0, House.curve('s', 0, -1000).value(0));
        Edge.holds("Channels", "'t': the time divided by 4.");
        MotionRig rig = House.row("t");
        for (int time = -400; time <= 400; time += Math.abs(time) < 50 ? 1 : 2) {
            Edge.is("at " + time, time / 4.0 + 0.0, rig.valueAt(0, time));
        }
    }

    private static void sums() {
        Edge.holds("Channels", "'+', '-', '*': of two inputs.");
        int[] numbers = {-1000, -1, 0, 1, 999, 1000};
        for (int a : numbers) {
            for (int b : numbers) {
                MotionRig rig = pair(a, b, "+-*");
                Edge.is(a + " + " + b, (double) (a + b), rig.value(2));
                Edge.is(a + " - " + b, (double) (a - b), rig.value(3));
                Edge.is(a + " * " + b, (double) (a * b), rig.value(4));
            }
        }
        MotionRig one = House.row("t+-*");
        one.setTime(12);
        Edge.is("one channel for both inputs of '+'", 6.0, one.value(1));
        Edge.is("of '-'", 0.0, one.value(2));
        Edge.is("of '*'", 0.0, one.value(3));
    }

    private static MotionRig pair(int a, int b, String kinds) {
        MotionRig rig = new MotionRig();
        House.constant(rig, a);
        House.constant(rig, b);
        for (int i = 0; i < kinds.length(); i++) {
            rig.addChannel(kinds.charAt(i), 0, 1, 0, 0);
        }
        return rig;
    }

    private static void remainders() {
        Edge.holds("Channels", "'%': the first input modulo the second one, as Java's remainder of doubles, 0 if the "
            + "second one is 0.");
        int[][] rows = {{7, 3, 1}, {-7, 3, -1}, {7, -3, 1}, {-7, -3, -1}, {6, 3, 0}, {-6, 3, 0}, {-6, -3, 0},
            {2, 3, 2}, {-2, 3, -2}, {2, -3, 2}, {3, 3, 0}, {-3, 3, 0}, {0, 3, 0}, {0, -3, 0}, {0, 0, 0}, {7, 0, 0},
            {-7, 0, 0}, {1000, 0, 0}, {-1000, 0, 0}, {1000, 999, 1}, {-1000, 999, -1}, {999, 1000, 999}, {1, 1, 0},
            {-1000, 1, 0}, {1000, -1000, 0}, {-1000, 1000, 0}, {-999, -1000, -999}};
        for (int[] row : rows) {
            Edge.is(row[0] + " % " + row[1], (double) row[2], pair(row[0], row[1], "%").value(2));
        }
        MotionRig rig = House.row("t");
        House.constant(rig, 1);
        House.constant(rig, -3);
        rig.addChannel('%', 0, 1, 0, 0);
        rig.addChannel('%', 2, 0, 0, 0);
        for (int time = -40; time <= 40; time++) {
            double frames = time / 4.0;
            Edge.is(frames + " % 1", frames % 1.0 + 0.0, rig.valueAt(3, time));
            Edge.is("-3 % " + frames, time == 0 ? 0.0 : -3.0 % frames + 0.0, rig.valueAt(4, time));
        }
    }

    private static void greaterAndLesser() {
        Edge.holds("Channels", "'x' and 'n': the greater and the lesser one of two inputs, as Math.max and Math.min.");
        int[] numbers = {-1000, -1, 0, 1, 1000};
        for (int a : numbers) {
            for (int b : numbers) {
                MotionRig rig = pair(a, b, "xn");
                Edge.is("the greater of " + a + " " + b, (double) Math.max(a, b), rig.value(2));
                Edge.is("the lesser of " + a + " " + b, (double) Math.min(a, b), rig.value(3));
            }
        }
    }

    private static void kindsOfOne() {
        Edge.holds("Channels", "'a', 's', 'r', 'f', 'c': of one input, as Math.abs, Math.signum, Math.rint, "
            + "Math.floor and Math.ceil.");
        MotionRig rig = House.row("t");
        for (int i = 0; i < 5; i++) {
            rig.addChannel("asrfc".charAt(i), 0, 0, 0, 0);
        }
        double[][] rows = {{-400, 100, -1, -100, -100, -100}, {400, 100, 1, 100, 100, 100}, {0, 0, 0, 0, 0, 0},
            {1, 0.25, 1, 0, 0, 1}, {-1, 0.25, -1, 0, -1, 0}, {2, 0.5, 1, 0, 0, 1}, {-2, 0.5, -1, 0, -1, 0},
            {3, 0.75, 1, 1, 0, 1}, {-3, 0.75, -1, -1, -1, 0}, {4, 1, 1, 1, 1, 1}, {-4, 1, -1, -1, -1, -1},
            {6, 1.5, 1, 2, 1, 2}, {-6, 1.5, -1, -2, -2, -1}, {10, 2.5, 1, 2, 2, 3}, {-10, 2.5, -1, -2, -3, -2},
            {399, 99.75, 1, 100, 99, 100}, {-399, 99.75, -1, -100, -100, -99}, {398, 99.5, 1, 100, 99, 100},
            {394, 98.5, 1, 98, 98, 99}, {-394, 98.5, -1, -98, -99, -98}};
        for (double[] row : rows) {
            for (int i = 1; i <= 5; i++) {
                double got = rig.valueAt(i, (int) row[0]);
                Edge.is("asrfc".charAt(i - 1) + " of " + row[0] / 4.0, row[i], got);
            }
        }
    }

    private static void delays() {
        Edge.holds("Channels", "'d': what its input is at the time that is earlier by its first number, or at the "
            + "time -400, if that would be earlier.");
        for (int quarters : new int[] {1, 2, 99, 100}) {
            MotionRig rig = House.row("t");
            rig.addChannel('d', 0, 0, quarters, 0);
            for (int time = -400; time <= 400; time += time < -290 ? 1 : 3) {
                double due = Math.max(time - quarters, -400) / 4.0 + 0.0;
                Edge.is("by " + quarters + " at " + time, due, rig.valueAt(1, time));
            }
            rig.setTime(-400 + quarters);
            Edge.is("to the time -400 itself", -100.0, rig.value(1));
            rig.setTime(-401 + quarters);
            Edge.is("to what is a quarter ahead of it", -100.0, rig.value(1));
            rig.setTime(-399 + quarters);
            Edge.is("to what is a quarter behind it", -99.75, rig.value(1));
        }
        MotionRig twice = House.row("tdd");
        Edge.is("twice ahead of -400", -100.0, twice.valueAt(2, -399));
        Edge.is("twice to -400", -100.0, twice.valueAt(2, -398));
        Edge.is("twice behind -400", -99.75, twice.valueAt(2, -397));
        Edge.holds("Channels", "'p': a spring, as told below.");
        Edge.is("ahead of the frame 0", -0.25, House.row("tp").valueAt(1, -1));
        Edge.is("at the frame 0", 0.0, House.row("tp").valueAt(1, 0));
    }

    private static void noNegativeZero() {
        Edge.holds("Channels", "A value of -0.0 becomes 0.0.");
        MotionRig rig = pair(0, -3, "*%");
        int product = rig.addChannel('*', 1, 0, 0, 0);
        int rest = rig.addChannel('%', 1, 1, 0, 0);
        int t = rig.addChannel('t', 0, 0, 0, 0);
        int near = rig.addChannel('r', t, 0, 0, 0);
        int up = rig.addChannel('c', t, 0, 0, 0);
        int late = rig.addChannel('d', up, 0, 1, 0);
        int greater = rig.addChannel('x', up, 0, 0, 0);
        int lesser = rig.addChannel('n', 0, near, 0, 0);
        int sign = rig.addChannel('s', product, 0, 0, 0);
        for (int c : new int[] {2, 3, product, rest, near, up, late, greater, lesser, sign}) {
            Edge.is("not -0.0 at a time of channel " + c, 0.0, rig.valueAt(c, -1));
            rig.setTime(-1);
            Edge.is("not -0.0 at the present time of channel " + c, 0.0, rig.value(c));
        }
        MotionRig bones = new MotionRig();
        House.constant(bones, -1);
        bones.addChannel('%', 0, 0, 0, 0);
        Edge.is("phase", 0.0f, bones.phase(1, 1));
        MotionRig layered = House.curve('s', 0, -5);
        layered.addLayer('o');
        layered.setKey(0, 1, 0, 0, 's');
        Edge.is("a layer of the weight 100 over -5", 0.0, layered.value(0));
    }

    private static void noCircle() {
        Edge.holds("Channels", "No channel may depend on itself, over any number of inputs.");
        String kinds = "tadpsrfcadpsrfca";
        for (int i = 1; i < 16; i++) {
            int end = i;
            Edge.refused(() -> House.row(kinds), "over " + (end - 1) + " channels", Edge.UNSUPPORTED,
                rig -> rig.rejoin(1, 0, end));
        }
        for (int i = 2; i < 16; i++) {
            Edge.is("the other way round", i - 1, House.row(kinds).rejoin(i, 0, 1));
        }
        Edge.refused(() -> House.row("t+-*%xn"), "over first inputs", Edge.UNSUPPORTED, rig -> rig.rejoin(1, 0, 6));
        Edge.refused(() -> House.row("t+-*%xn"), "over second inputs", Edge.UNSUPPORTED, rig -> rig.rejoin(1, 1, 6));
        MotionRig rig = House.row("t+-*%xn");
        for (int i = 1; i < 7; i++) {
            rig.rejoin(i, 0, 0);
        }
        Edge.is("over second inputs alone", "throws UnsupportedOperationException", () -> rig.rejoin(1, 0, 6));
        rig.rejoin(4, 1, 0);
        Edge.is("cut through", 0, rig.rejoin(1, 0, 6));
        Edge.is("and closed on the other side", "throws UnsupportedOperationException", () -> rig.rejoin(6, 0, 1));
    }

    private static void newObject() {
        Edge.holds("Promise 1", "Creates a rig without channels, at the time 0.");
        for (int channel : new int[] {0, -1, 1, 15, 16, Edge.LEAST_INT, Edge.MOST_INT}) {
            Edge.refused(MotionRig::new, "channel " + channel, Edge.INDEX, rig -> rig.isClean(channel));
        }
        Edge.is("the time", 0, new MotionRig().setTime(-400));
        Edge.is("two rigs share nothing", 0, otherRig().runs());
        Edge.is("nor channels", 0, otherRig().addChannel('k', 0, 0, 0, 0));
        Edge.holds("What it is", "An object is used for at most 512 calls after it has been made");
        MotionRig rig = House.curve('s', 0, 0);
        for (int i = 2; i < 511; i++) {
            rig.setKey(0, 0, 0, i, 's');
        }
        Edge.is("the 512th call, behind 510 edits", 510.0, rig.value(0));
    }

    private static MotionRig otherRig() {
        House.furnished();
        return new MotionRig();
    }

    private static void addingKinds() {
        Edge.holds("Promise 2", "`kind`: its kind", "Returns the number of the channel.",
            "Throws `IllegalArgumentException` if there is no such kind");
        for (int i = 0; i < KINDS.length(); i++) {
            MotionRig rig = House.small();
            Edge.is("kind " + KINDS.charAt(i), 2, rig.addChannel(KINDS.charAt(i), 0, 1, 1, 1));
            Edge.is("and then", 3, rig.addChannel(KINDS.charAt(i), 2, 2, 1, 1));
        }
        Edge.refusedBeside(KINDS, Edge.ARGUMENT, (rig, kind) -> rig.addChannel(kind, 0, 0, 1, 1));
    }

    private static void addingInputs() {
        Edge.holds("Promise 2", "`a`: its first input, of no meaning if it has none",
            "`b`: its second input, of no meaning if it has fewer than two",
            "Throws `IndexOutOfBoundsException` if there is no such channel for an input");
        int[] any = {0, 1, -1, 2, 16, Edge.LEAST_INT, Edge.MOST_INT};
        for (int number : any) {
            for (int i = 0; i < KINDS.length(); i++) {
                char kind = KINDS.charAt(i);
                if ("kt".indexOf(kind) >= 0) {
                    Edge.is(kind + " with " + number, 2, House.small().addChannel(kind, number, number, 1, 1));
                } else if ("+-*%xn".indexOf(kind) < 0) {
                    Edge.is(kind + " with a second " + number, 2, House.small().addChannel(kind, 1, number, 1, 1));
                }
            }
        }
        MotionRig two = House.row("kk");
        int one = two.addChannel('a', 1, 0, 0, 0);
        two.value(one);
        two.setKey(0, 0, 0, 9, 's');
        Edge.is("a second input that has no meaning makes nothing dirty", true, two.isClean(one));
        for (int number : House.NO_CHANNEL) {
            for (char kind : "+-*%xnasrfcdp".toCharArray()) {
                Edge.refused(kind + " of " + number, Edge.INDEX, rig -> rig.addChannel(kind, number, 0, 1, 1));
            }
            for (char kind : "+-*%xn".toCharArray()) {
                Edge.refused(kind + " of 0 and " + number, Edge.INDEX, rig -> rig.addChannel(kind, 0, number, 1, 1));
            }
        }
        MotionRig rig = House.furnished();
        Edge.is("the last channel as both inputs", 7, rig.addChannel('+', 6, 6, 0, 0));
        Edge.is("'+' of no channel in an empty rig", "throws IndexOutOfBoundsException",
            () -> new MotionRig().addChannel('+', 0, 0, 0, 0));
    }

    private static void addingNumbers() {
        Edge.holds("Promise 2", "`first`: for 'd' the number of quarters, 1 to 100; for 'p' 1 to 8; of no meaning "
            + "otherwise", "`second`: for 'p' 0 to 8; of no meaning otherwise", "or a number is out of range");
        for (int first : Edge.within(1, 100)) {
            Edge.is("'d' of " + first, 2, House.small().addChannel('d', 0, 0, first, Edge.MOST_INT));
        }
        for (int first : Edge.beside(1, 100)) {
            Edge.refused("'d' of " + first, Edge.ARGUMENT, rig -> rig.addChannel('d', 0, 0, first, 0));
        }
        for (int first : Edge.within(1, 8)) {
            for (int second : Edge.within(0, 8)) {
                Edge.is("'p' of " + first + " " + second, 2, House.small().addChannel('p', 0, 0, first, second));
            }
        }
        for (int first : Edge.beside(1, 8)) {
            Edge.refused("'p' of " + first, Edge.ARGUMENT, rig -> rig.addChannel('p', 0, 0, first, 0));
        }
        for (int second : Edge.beside(0, 8)) {
            Edge.refused("'p' of 1 and " + second, Edge.ARGUMENT, rig -> rig.addChannel('p', 0, 0, 1, second));
        }
        for (int number : new int[] {-1, 0, 9, 101, Edge.LEAST_INT, Edge.MOST_INT}) {
            for (char kind : "kt+-*%xnasrfc".toCharArray()) {
                Edge.is(kind + " of " + number, 2, House.small().addChannel(kind, 0, 0, number, number));
            }
            Edge.is("a second number of 'd'", 2, House.small().addChannel('d', 0, number, 1, number));
        }
    }

    private static void addingRefused() {
        Edge.holds("Promise 2", "Throws `IllegalStateException` if there are 16 channels");
        MotionRig rig = House.row("taaaaaaaaaaaaaa");
        Edge.is("the 16th", 15, rig.addChannel('a', 14, 0, 0, 0));
        Edge.is("the 17th", "throws IllegalStateException", () -> rig.addChannel('a', 15, 0, 0, 0));
        Edge.refused(ChannelEdges::full, "the 17th", Edge.STATE, r -> r.addChannel('k', 0, 0, 0, 0));
        Edge.holds("Exceptions", "If several exceptions apply, the one that is documented first is thrown.");
        Edge.refused("addChannel: no kind, no input", Edge.ARGUMENT, r -> r.addChannel('?', 99, -1, 0, 0));
        Edge.refused("addChannel: no number, no input", Edge.ARGUMENT, r -> r.addChannel('d', 99, -1, 0, 0));
        Edge.refused("addChannel: no second number, no input", Edge.ARGUMENT, r -> r.addChannel('p', 7, 0, 1, 9));
        Edge.refused(ChannelEdges::full, "addChannel: no kind, full", Edge.ARGUMENT,
            r -> r.addChannel('?', 0, 0, 0, 0));
        Edge.refused(ChannelEdges::full, "addChannel: no number, full", Edge.ARGUMENT,
            r -> r.addChannel('d', 0, 0, 101, 0));
        Edge.refused(ChannelEdges::full, "addChannel: no input, full", Edge.INDEX,
            r -> r.addChannel('a', 16, 0, 0, 0));
        Edge.refused(ChannelEdges::full, "addChannel: no second input, full", Edge.INDEX,
            r -> r.addChannel('x', 15, -1, 0, 0));
    }

    private static void rejoining() {
        Edge.holds("Promise 3", "`channel`: the number of the channel", "`which`: the input, 0 or 1",
            "`other`: the number of the channel that is the input from now on", "Returns the input before.");
        MotionRig rig = pair(2, 5, "-a");
        Edge.is("the first input before", 0, rig.rejoin(2, 0, 1));
        Edge.is("5 - 5", 0.0, rig.value(2));
        Edge.is("the second input before", 1, rig.rejoin(2, 1, 0));
        Edge.is("5 - 2", 3.0, rig.value(2));
        Edge.is("of a kind with one input", 0, rig.rejoin(3, 0, 2));
        Edge.is("which is a later one now", 2, rig.rejoin(3, 0, 2));
        Edge.is("abs of 3", 3.0, rig.value(3));
        MotionRig last = House.row("taaaaaaaaaaaaaaa");
        Edge.is("the last one", 14, last.rejoin(15, 0, 0));
        Edge.is("to the last one", 0, last.rejoin(1, 0, 15));
        Edge.is("which is that of the time", 2.5, last.valueAt(1, -10));
    }

    private static void rejoiningRefused() {
        Edge.holds("Promise 3", "Throws `IndexOutOfBoundsException` if there is no such channel, for either");
        Edge.refusedFor(House.NO_CHANNEL, Edge.INDEX, (rig, c) -> rig.rejoin(c, 0, 0));
        Edge.refusedFor(House.NO_CHANNEL, Edge.INDEX, (rig, c) -> rig.rejoin(3, 0, c));
        Edge.refusedFor(House.NO_CHANNEL, Edge.INDEX, (rig, c) -> rig.rejoin(c, 0, c));
        Edge.holds("Promise 3", "Throws `IllegalArgumentException` if it has no such input");
        Edge.refusedFor(Edge.beside(0, 1), Edge.ARGUMENT, (rig, which) -> rig.rejoin(3, which, 1));
        Edge.refusedFor(Edge.beside(0, 0), Edge.ARGUMENT, (rig, which) -> rig.rejoin(4, which, 1));
        Edge.refusedFor(Edge.within(0, 1), Edge.ARGUMENT, (rig, which) -> rig.rejoin(0, which, 1));
        Edge.refusedFor(Edge.within(0, 1), Edge.ARGUMENT, (rig, which) -> rig.rejoin(2, which, 1));
        for (int i = 1; i < KINDS.length(); i++) {
            MotionRig rig = House.row("t" + KINDS.charAt(i));
            int inputs = "kt".indexOf(KINDS.charAt(i)) >= 0 ? 0 : "+-*%xn".indexOf(KINDS.charAt(i)) >= 0 ? 2 : 1;
            for (int which = 0; which < 3; which++) {
                int input = which;
                Object due = which < inputs ? 0 : "throws IllegalArgumentException";
                Edge.is("input " + which + " of " + KINDS.charAt(i), due, () -> rig.rejoin(1, input, 0));
            }
        }
        Edge.holds("Promise 3", "Throws `UnsupportedOperationException` if the other one depends on this one, or is "
            + "it");
        Edge.refused("itself", Edge.UNSUPPORTED, rig -> rig.rejoin(3, 0, 3));
        Edge.refused("itself as the second input", Edge.UNSUPPORTED, rig -> rig.rejoin(3, 1, 3));
        Edge.refused("one that depends on it over 'd'", Edge.UNSUPPORTED, rig -> rig.rejoin(3, 1, 4));
        Edge.is("but not one on which it depends", 0, House.furnished().rejoin(3, 0, 2));
        Edge.holds("Exceptions", "If several exceptions apply, the one that is documented first is thrown.");
        Edge.refused("rejoin: no other, no input", Edge.INDEX, rig -> rig.rejoin(3, 2, 7));
        Edge.refused("rejoin: no channel, no input", Edge.INDEX, rig -> rig.rejoin(7, -1, 3));
        Edge.refused("rejoin: no input, itself", Edge.ARGUMENT, rig -> rig.rejoin(3, 2, 3));
        Edge.refused("rejoin: no second input, a circle", Edge.ARGUMENT, rig -> rig.rejoin(4, 1, 4));
        Edge.refused("rejoin: no input of 'k', itself", Edge.ARGUMENT, rig -> rig.rejoin(0, 0, 3));
    }
}
