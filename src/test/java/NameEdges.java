import java.util.NoSuchElementException;

/** The paragraph 'Names and overrides' of the document, and promises 32 to 35. */
final class NameEdges {
    private static final String LETTERS = "abcdefghijklmnopqrstuvwxyz";

    private NameEdges() {
    }

    static void run() {
        letters();
        atAllTimes();
        orphans();
        naming();
        namingRefused();
        overriding();
        dropping();
        counting();
        order();
    }

    private static void letters() {
        Edge.holds("Names and overrides", "A channel can have a letter from a to z as its name, which no other one "
            + "has.");
        for (char letter : LETTERS.toCharArray()) {
            MotionRig rig = House.row("tt");
            Edge.is("the letter " + letter, false, rig.name(0, letter));
            Edge.is("which no other one has", "throws UnsupportedOperationException", () -> rig.name(1, letter));
            Edge.is("but itself", true, rig.name(0, letter));
            Edge.is("and is free behind another one", true, rig.name(0, letter == 'a' ? 'z' : 'a'));
            Edge.is("for another one", false, rig.name(1, letter));
        }
        MotionRig all = House.row("tttttttttttttttt");
        for (int c = 0; c < 16; c++) {
            Edge.is("a letter for each", false, all.name(c, LETTERS.charAt(25 - c)));
        }
    }

    private static void atAllTimes() {
        Edge.holds("Names and overrides", "A letter can have an override, an int: the channel with this name has this "
            + "as its value at all times.");
        for (int value : Edge.within(-1000, 1000)) {
            for (char kind : "t+-*%xnasrfcdp".toCharArray()) {
                MotionRig rig = House.row("t" + kind + "pd");
                rig.name(1, 'z');
                Edge.is("one letter", 1, rig.override('z', value));
                for (int time : Edge.within(-400, 400)) {
                    Edge.is(kind + " at " + time, (double) value, rig.valueAt(1, time));
                }
                Edge.is("at the present time", (double) value, rig.value(1));
                rig.setTime(400);
                Edge.is("over 'p' and 'd', too", (double) value, rig.value(3));
                Edge.is("dropped", value, rig.dropOverride('z'));
                Edge.is("from nothing again", House.row("t" + kind + "pd").valueAt(3, 400), rig.value(3));
            }
        }
        MotionRig curve = House.curve('s', 0, 7);
        curve.override('a', 0);
        Edge.is("without the name", 7.0, curve.value(0));
        curve.name(0, 'a');
        Edge.is("with the name 0.0", 0.0, curve.value(0));
        curve.name(0, 'b');
        Edge.is("with another name", 7.0, curve.value(0));
    }

    private static void orphans() {
        Edge.holds("Names and overrides", "An override whose letter is no channel's name is an orphan.");
        MotionRig rig = House.row("tt");
        Edge.is("none", 0, rig.orphans());
        for (int i = 0; i < 26; i++) {
            rig.override(LETTERS.charAt(i), i);
            Edge.is("all without a name", i + 1, rig.orphans());
        }
        rig.name(0, 'a');
        Edge.is("one has a name", 25, rig.orphans());
        rig.name(1, 'z');
        Edge.is("two have names", 24, rig.orphans());
        rig.name(1, 'y');
        Edge.is("another letter", 24, rig.orphans());
        rig.dropOverride('y');
        Edge.is("a name without an override", 24, rig.orphans());
        rig.name(1, 'z');
        Edge.is("the letter of before", 23, rig.orphans());
        rig.override('y', 0);
        Edge.is("hangs in the air", 24, rig.orphans());
    }

    private static void naming() {
        Edge.holds("Promise 32", "`channel`: the number of the channel", "`letter`: the letter",
            "Returns whether it had a name.");
        MotionRig rig = House.row("tttttttttttttttt");
        for (int c : new int[] {0, 1, 14, 15}) {
            Edge.is("not yet", false, rig.name(c, LETTERS.charAt(c)));
            Edge.is("it had", true, rig.name(c, LETTERS.charAt(c)));
            Edge.is("it had another one", true, rig.name(c, LETTERS.charAt(c + 10)));
        }
        MotionRig again = House.row("t");
        again.name(0, 'a');
        again.override('a', 1);
        again.dropOverride('a');
        Edge.is("a name stays when an override is dropped", true, again.name(0, 'b'));
    }

    private static void namingRefused() {
        Edge.holds("Promise 32", "Throws `IndexOutOfBoundsException` if there is no such channel");
        Edge.refusedFor(House.NO_CHANNEL, Edge.INDEX, (rig, c) -> rig.name(c, 'q'));
        Edge.holds("Promise 32", "Throws `IllegalArgumentException` if there is no such letter");
        Edge.refusedBeside(LETTERS, Edge.ARGUMENT, (rig, letter) -> rig.name(1, letter));
        Edge.holds("Promise 32", "Throws `UnsupportedOperationException` if another channel has this name");
        Edge.refusedFor(new int[] {0, 1, 2, 3, 5, 6}, Edge.UNSUPPORTED, (rig, c) -> rig.name(c, 'a'));
        Edge.refusedFor(new int[] {1, 2, 3, 4, 5, 6}, Edge.UNSUPPORTED, (rig, c) -> rig.name(c, 'n'));
        Edge.is("but not the channel itself", true, House.furnished().name(4, 'a'));
        Edge.is("nor an orphan", false, House.furnished().name(1, 'b'));
    }

    private static void overriding() {
        Edge.holds("Promise 33", "`letter`: the letter", "`value`: the value, -1000 to 1000",
            "Returns how many letters have one.");
        MotionRig rig = new MotionRig();
        for (int i = 25; i >= 0; i--) {
            Edge.is("one more", 26 - i, rig.override(LETTERS.charAt(i), i % 2 == 0 ? -1000 : 1000));
        }
        for (int value : Edge.within(-1000, 1000)) {
            Edge.is("in place of one", 26, rig.override('m', value));
            Edge.is("its value", value, rig.dropOverride('m'));
            Edge.is("again", 26, rig.override('m', 0));
        }
        Edge.is("the first one", -1000, rig.dropOverride('a'));
        Edge.is("the last one", 1000, rig.dropOverride('z'));
        Edge.is("of 24 one again", 24, rig.override('m', 0));
        Edge.holds("Promise 33", "Throws `IllegalArgumentException` if there is no such letter, or the value is out of "
            + "range");
        Edge.refusedBeside(LETTERS, Edge.ARGUMENT, (r, letter) -> r.override(letter, 0));
        Edge.refusedFor(Edge.beside(-1000, 1000), Edge.ARGUMENT, (r, value) -> r.override('a', value));
        Edge.refusedFor(Edge.beside(-1000, 1000), Edge.ARGUMENT, (r, value) -> r.override('q', value));
        Edge.refusedFor(Edge.beside(-1000, 1000), Edge.ARGUMENT, (r, value) -> r.override('?', value));
    }

    private static void dropping() {
        Edge.holds("Promise 34", "`letter`: the letter", "Returns its value.",
            "Throws `NoSuchElementException` if there is none");
        for (char letter : LETTERS.toCharArray()) {
            MotionRig rig = new MotionRig();
            Edge.is("none yet", "throws NoSuchElementException", () -> rig.dropOverride(letter));
            rig.override(letter, -1000);
            rig.override(letter, 'm' - letter);
            Edge.is("its value, as it was set last", 'm' - letter, rig.dropOverride(letter));
            Edge.is("none any more", "throws NoSuchElementException", () -> rig.dropOverride(letter));
        }
        Edge.refusedBeside("", NoSuchElementException.class, (r, letter) -> r.dropOverride(letter));
        Edge.refused("a name without an override", NoSuchElementException.class, rig -> rig.dropOverride('n'));
        Edge.refused("neither name nor override", NoSuchElementException.class, rig -> rig.dropOverride('z'));
    }

    private static void counting() {
        Edge.holds("Promise 35", "Returns their number.");
        Edge.is("none", 0, new MotionRig().orphans());
        MotionRig rig = House.furnished();
        Edge.is("one of two overrides", 1, rig.orphans());
        rig.dropOverride('a');
        Edge.is("yet one", 1, rig.orphans());
        rig.dropOverride('b');
        Edge.is("none", 0, rig.orphans());
        rig.override('a', 0);
        Edge.is("of a channel's name", 0, rig.orphans());
        rig.override('c', 0);
        Edge.is("of nobody's", 1, rig.orphans());
    }

    private static void order() {
        Edge.holds("Exceptions", "If several exceptions apply, the one that is documented first is thrown.");
        Edge.refusedFor(House.NO_CHANNEL, Edge.INDEX, (rig, c) -> rig.name(c, '?'));
        Edge.refusedFor(House.NO_CHANNEL, Edge.INDEX, (rig, c) -> rig.name(c, 'a'));
    }
}
