/** Promises 5 to 8: pile, shift, whole, about. */
public final class PilesTest {
    private static final Check CHECK = new Check("PilesTest");

    public static void main(String[] args) {
        pilesAreNumberedAndFull();
        pileBounds();
        shiftPutsElsewhere();
        shiftBounds();
        wholeAnswersWhatWas();
        wholeBounds();
        aboutTellsAll();
        aboutBounds();
        CHECK.end();
    }

    private static void pilesAreNumberedAndFull() {
        PileCaps o = new PileCaps();
        for (int i = 0; i < 12; i++) {
            CHECK.due("pile " + i, i, o.pile(i, -i, i + 1, i + 1));
            CHECK.due("count(1)", i + 1, o.count(1));
            CHECK.due("count(2)", i + 1, o.count(2));
        }
        CHECK.due("the 13th pile", PileCaps.FULL, o.pile(0, 0, 1, 1));
        CHECK.due("BAD is ahead of FULL", PileCaps.BAD, o.pile(0, 0, 0, 1));
        CHECK.due("count(1) when full", 12, o.count(1));
        o.whole(3, false);
        CHECK.due("BROKEN ones still fill", PileCaps.FULL, o.pile(0, 0, 1, 1));
    }

    private static void pileBounds() {
        PileCaps o = new PileCaps();
        int[][] bad = {{-21, 0, 1, 1}, {21, 0, 1, 1}, {0, -21, 1, 1}, {0, 21, 1, 1}, {0, 0, 0, 1}, {0, 0, 101, 1},
            {0, 0, 1, 0}, {0, 0, 1, 21}, {Integer.MIN_VALUE, 0, 1, 1}, {0, Integer.MAX_VALUE, 1, 1},
            {0, 0, Integer.MIN_VALUE, 1}, {0, 0, 1, Integer.MAX_VALUE}};
        for (int[] b : bad) {
            CHECK.due("pile(" + b[0] + ", " + b[1] + ", " + b[2] + ", " + b[3] + ")", PileCaps.BAD,
                o.pile(b[0], b[1], b[2], b[3]));
        }
        CHECK.due("nothing came of BAD ones", 0, o.count(1));
        CHECK.due("pile(-20, 20, 1, 20)", 0, o.pile(-20, 20, 1, 20));
        CHECK.due("pile(20, -20, 100, 1)", 1, o.pile(20, -20, 100, 1));
        CHECK.due("two may be at one place", 2, o.pile(20, -20, 100, 1));
    }

    private static void shiftPutsElsewhere() {
        PileCaps o = new PileCaps();
        o.pile(1, 2, 3, 4);
        o.pile(5, 6, 7, 8);
        CHECK.due("shift(1, -20, 20)", 0, o.shift(1, -20, 20));
        CHECK.due("x", -20, o.about(1, 0));
        CHECK.due("y", 20, o.about(1, 1));
        CHECK.due("LENGTH stays", 7, o.about(1, 2));
        CHECK.due("STIFFNESS stays", 8, o.about(1, 3));
        CHECK.due("x of the other", 1, o.about(0, 0));
        CHECK.due("shift to where it is", 0, o.shift(1, -20, 20));
        CHECK.due("shift to where another is", 0, o.shift(1, 1, 2));
        CHECK.due("x there", 1, o.about(1, 0));
        o.whole(0, false);
        CHECK.due("shift of a BROKEN one", 0, o.shift(0, 20, -20));
        CHECK.due("it stays BROKEN", 0, o.about(0, 4));
        CHECK.due("y of it", -20, o.about(0, 1));
    }

    private static void shiftBounds() {
        PileCaps o = new PileCaps();
        o.pile(1, 2, 3, 4);
        int[][] bad = {{-1, 0, 0}, {1, 0, 0}, {0, 21, 0}, {0, -21, 0}, {0, 0, 21}, {0, 0, -21}, {12, 0, 0},
            {Integer.MIN_VALUE, 0, 0}, {Integer.MAX_VALUE, 0, 0}, {0, Integer.MAX_VALUE, 0}};
        for (int[] b : bad) {
            CHECK.due("shift(" + b[0] + ", " + b[1] + ", " + b[2] + ")", PileCaps.BAD, o.shift(b[0], b[1], b[2]));
            CHECK.due("x as it was", 1, o.about(0, 0));
            CHECK.due("y as it was", 2, o.about(0, 1));
        }
    }

    private static void wholeAnswersWhatWas() {
        PileCaps o = new PileCaps();
        o.pile(0, 0, 1, 1);
        o.pile(0, 1, 1, 1);
        CHECK.due("whole(1, true) of a new one", 1, o.whole(1, true));
        CHECK.due("whole(1, false)", 1, o.whole(1, false));
        CHECK.due("count(2)", 1, o.count(2));
        CHECK.due("about(1, 4)", 0, o.about(1, 4));
        CHECK.due("about(0, 4)", 1, o.about(0, 4));
        CHECK.due("whole(1, false) again", 0, o.whole(1, false));
        CHECK.due("whole(1, true)", 0, o.whole(1, true));
        CHECK.due("about(1, 4)", 1, o.about(1, 4));
        CHECK.due("count(2)", 2, o.count(2));
    }

    private static void wholeBounds() {
        PileCaps o = new PileCaps();
        o.pile(0, 0, 1, 1);
        for (int bad : new int[] {-1, 1, 12, 32, Integer.MIN_VALUE, Integer.MAX_VALUE}) {
            CHECK.due("whole(" + bad + ", false)", PileCaps.BAD, o.whole(bad, false));
            CHECK.due("whole(" + bad + ", true)", PileCaps.BAD, o.whole(bad, true));
            CHECK.due("count(2)", 1, o.count(2));
        }
    }

    private static void aboutTellsAll() {
        PileCaps o = new PileCaps();
        o.layer(4, 3, 9);
        o.layer(1, 11, 17);
        o.pile(-1, 7, 4, 13);
        int[] due = {-1, 7, 4, 13, 1, 12, 29};
        for (int what = 0; what < due.length; what++) {
            CHECK.due("about(0, " + what + ")", due[what], o.about(0, what));
        }
        o.whole(0, false);
        CHECK.due("BROKEN: about(0, 4)", 0, o.about(0, 4));
        CHECK.due("BROKEN: PULL is told still", 12, o.about(0, 5));
        CHECK.due("BROKEN: BEARING is told still", 29, o.about(0, 6));
    }

    private static void aboutBounds() {
        PileCaps o = new PileCaps();
        o.pile(0, 0, 1, 1);
        int[][] bad = {{-1, 0}, {1, 0}, {0, -1}, {0, 7}, {12, 0}, {Integer.MAX_VALUE, 0}, {Integer.MIN_VALUE, 0},
            {0, Integer.MAX_VALUE}, {0, Integer.MIN_VALUE}};
        for (int[] b : bad) {
            CHECK.due("about(" + b[0] + ", " + b[1] + ")", -1000, o.about(b[0], b[1]));
        }
    }
}
