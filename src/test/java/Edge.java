import java.util.ArrayList;
import java.util.List;

/**
 * What the tests of edges share. Each of them names the sentences of the document that it holds; a call that is
 * refused is held to a twin of the rig that was not called, as nothing may be another one behind it.
 */
final class Edge {
    interface Maker {
        MotionRig make();
    }

    interface Call {
        Object on(MotionRig rig);
    }

    static final Class<IllegalArgumentException> ARGUMENT = IllegalArgumentException.class;
    static final Class<IndexOutOfBoundsException> INDEX = IndexOutOfBoundsException.class;
    static final Class<IllegalStateException> STATE = IllegalStateException.class;
    static final Class<UnsupportedOperationException> UNSUPPORTED = UnsupportedOperationException.class;
    static final int LEAST_INT = Integer.MIN_VALUE;
    static final int MOST_INT = Integer.MAX_VALUE;

    private static final int SWEEP = 400;
    private static final Sentences sentences = new Sentences();
    private static String head = "";
    private static String first = "";
    private static boolean isAnswered = true;

    private Edge() {
    }

    /** From here on the answers hold these sentences, or parts of sentences, which stand in the document there. */
    static void holds(String where, String... parts) {
        Check.is(head + ": answers for " + first, true, isAnswered);
        head = where;
        first = parts[0];
        isAnswered = false;
        for (String part : parts) {
            Check.is("the document has at " + where + ": " + part, true, sentences.name(where, part));
        }
    }

    static void end() {
        holds("Exceptions", "A method that throws an exception changes nothing.");
        isAnswered = true;
        for (String sentence : sentences.left()) {
            if (!sentence.startsWith("Not promised: ") && !sentence.startsWith("The public face: ")
                    && !sentence.startsWith("What it is: A rig for moving figures")
                    && !sentence.matches("(?s)Promise \\d+: `\\w+ \\w+\\(.*")) {
                Check.is("a test of: " + sentence, true, false);
            }
        }
    }

    static void is(String what, Object want, Object got) {
        isAnswered = true;
        Check.is(head + ": " + what, want, got);
    }

    static void is(String what, Object want, Check.Call call) {
        is(what, want, Check.outcome(call));
    }

    /** A call on the furnished rig. */
    static void refused(String what, Class<? extends RuntimeException> due, Call call) {
        refused(House::furnished, what, due, call);
    }

    static void refused(Maker maker, String what, Class<? extends RuntimeException> due, Call call) {
        MotionRig rig = maker.make();
        is(what, "throws " + due.getSimpleName(), Check.outcome(() -> call.on(rig)));
        is(what + " and nothing is another one", Looks.of(maker.make()), Looks.of(rig));
    }

    /** A number that is refused whichever of these it is. */
    static void refusedFor(int[] numbers, Class<? extends RuntimeException> due, Numbered call) {
        for (int number : numbers) {
            refused("with " + number, due, rig -> call.on(rig, number));
        }
    }

    interface Numbered {
        Object on(MotionRig rig, int number);
    }

    interface Lettered {
        Object on(MotionRig rig, char letter);
    }

    /** All chars but these are refused; no rig is used for more than 512 calls. */
    static void refusedBeside(String letters, Class<? extends RuntimeException> due, Lettered call) {
        List<Integer> wrong = new ArrayList<>();
        List<String> untouched = Looks.of(House.small());
        for (int begin = 0; begin <= Character.MAX_VALUE; begin += SWEEP) {
            MotionRig rig = House.small();
            for (int i = begin; i < begin + SWEEP && i <= Character.MAX_VALUE; i++) {
                char letter = (char) i;
                Object answer = letters.indexOf(letter) >= 0 ? "" : Check.outcome(() -> call.on(rig, letter));
                if (letters.indexOf(letter) < 0 && !answer.equals("throws " + due.getSimpleName())) {
                    wrong.add(i);
                }
            }
            is("chars from " + begin + " on, and nothing is another one", untouched, Looks.of(rig));
        }
        is("chars that are not refused beside " + letters, List.of(), wrong);
        for (char letter : new char[] {0, ' ', '`', '{', 'A', 'K', 'Z', 127, 255, 256, 'k' + 256, 'a' + 65280, 65535}) {
            refused("with the char " + (int) letter, due, rig -> call.on(rig, letter));
        }
    }

    /** What is first refused on both sides, and the ends of int. */
    static int[] beside(int least, int most) {
        return new int[] {least - 1, most + 1, LEAST_INT, MOST_INT};
    }

    /** What is last allowed on both sides, and what is next to it. */
    static int[] within(int least, int most) {
        return new int[] {least, least + 1, most - 1, most};
    }
}
