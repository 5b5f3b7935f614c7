/**
 * Promises 5 to 8 at their edges, a test for each sentence that names one: twelve PILES, where
 * they may stand, WHOLE and BROKEN.
 */
public final class PilesEdgesTest {
    private static final Check CHECK = new Check("PilesEdgesTest");

    public static void main(String[] args) {
        pilesZeroToEleven();
        theThirteenthIsFull();
        brokenOnesAreThereStill();
        aNewOneIsWhole();
        pilesAtTheCorners();
        pilesAtOnePlace();
        shortestAndLongest();
        shiftToTheCorners();
        shiftToWhereItIs();
        shiftToAnother();
        shiftOfOneAlone();
        shiftMakesItStandOrNot();
        wholeThatIsWhole();
        brokenThatIsBroken();
        wholeOfOneAlone();
        allBroken();
        aboutGoesByTheGroundAsItIs();
        CHECK.end();
    }

    private static PileCaps twelve() {
        PileCaps o = new PileCaps();
        for (int i = 0; i < 12; i++) {
            o.pile(i - 6, 6 - i, i + 1, 20 - i);
        }
        return o;
    }

    /** "PILES 0, 1, .. as they come, 12 at most". */
    private static void pilesZeroToEleven() {
        PileCaps o = new PileCaps();
        for (int i = 0; i < 12; i++) {
            CHECK.due("count(1) ahead of pile " + i, i, o.count(1));
            CHECK.due("pile " + i, i, o.pile(0, 0, 1, 1));
        }
        CHECK.due("count(1)", 12, o.count(1));
        CHECK.due("count(2)", 12, o.count(2));
    }

    /** Promise 5: "FULL: 12." */
    private static void theThirteenthIsFull() {
        PileCaps o = twelve();
        for (int again = 0; again < 3; again++) {
            CHECK.due("one more than twelve", PileCaps.FULL, o.pile(20, 20, 100, 20));
        }
        CHECK.due("count(1)", 12, o.count(1));
        CHECK.due("there is no pile 12", -1000, o.about(12, 0));
        for (int i = 0; i < 12; i++) {
            CHECK.due("x of " + i, i - 6, o.about(i, 0));
            CHECK.due("y of " + i, 6 - i, o.about(i, 1));
            CHECK.due("LENGTH of " + i, i + 1, o.about(i, 2));
            CHECK.due("STIFFNESS of " + i, 20 - i, o.about(i, 3));
        }
    }

    private static void brokenOnesAreThereStill() {
        PileCaps o = twelve();
        for (int i = 0; i < 12; i++) {
            o.whole(i, false);
        }
        CHECK.due("twelve BROKEN ones", PileCaps.FULL, o.pile(0, 0, 1, 1));
        CHECK.due("count(1)", 12, o.count(1));
        CHECK.due("count(2)", 0, o.count(2));
    }

    private static void aNewOneIsWhole() {
        PileCaps o = new PileCaps();
        o.pile(0, 0, 1, 1);
        CHECK.due("about(0, 4)", 1, o.about(0, 4));
        o.whole(0, false);
        o.pile(0, 0, 1, 1);
        CHECK.due("after a BROKEN one", 1, o.about(1, 4));
        CHECK.due("count(2)", 1, o.count(2));
    }

    /** "x, y (-20 to 20)". */
    private static void pilesAtTheCorners() {
        PileCaps o = new PileCaps();
        int pile = 0;
        for (int x = -20; x <= 20; x += 40) {
            for (int y = -20; y <= 20; y += 40) {
                CHECK.due("pile(" + x + ", " + y + ", 1, 1)", pile, o.pile(x, y, 1, 1));
                CHECK.due("x", x, o.about(pile, 0));
                CHECK.due("y", y, o.about(pile, 1));
                pile++;
            }
        }
        CHECK.due("the four corners stand", 0, o.shares(0));
    }

    private static void pilesAtOnePlace() {
        PileCaps o = new PileCaps();
        CHECK.due("the first", 0, o.pile(7, 7, 1, 1));
        CHECK.due("the second there", 1, o.pile(7, 7, 1, 1));
    }

    /** "a LENGTH (1 to 100 units, from the top down)". */
    private static void shortestAndLongest() {
        PileCaps o = new PileCaps();
        o.layer(1, 1, 7);
        o.layer(1, 2, 9);
        o.pile(0, 0, 1, 20);
        o.pile(0, 0, 100, 1);
        CHECK.due("the shortest: LENGTH", 1, o.about(0, 2));
        CHECK.due("the shortest: STIFFNESS", 20, o.about(0, 3));
        CHECK.due("the shortest: PULL", 1, o.about(0, 5));
        CHECK.due("the shortest: BEARING", 10, o.about(0, 6));
        CHECK.due("the longest: LENGTH", 100, o.about(1, 2));
        CHECK.due("the longest: STIFFNESS", 1, o.about(1, 3));
        CHECK.due("the longest: PULL", 199, o.about(1, 5));
        CHECK.due("the longest: BEARING", 208, o.about(1, 6));
    }

    /** Promise 6: "x and y are others: 0." */
    private static void shiftToTheCorners() {
        PileCaps o = twelve();
        for (int pile : new int[] {0, 11}) {
            for (int x = -20; x <= 20; x += 40) {
                for (int y = -20; y <= 20; y += 40) {
                    CHECK.due("shift(" + pile + ", " + x + ", " + y + ")", 0, o.shift(pile, x, y));
                    CHECK.due("x", x, o.about(pile, 0));
                    CHECK.due("y", y, o.about(pile, 1));
                }
            }
        }
    }

    private static void shiftToWhereItIs() {
        PileCaps o = twelve();
        CHECK.due("shift to where it is", 0, o.shift(3, -3, 3));
        CHECK.due("x", -3, o.about(3, 0));
        CHECK.due("y", 3, o.about(3, 1));
    }

    private static void shiftToAnother() {
        PileCaps o = twelve();
        CHECK.due("shift to where another is", 0, o.shift(3, 5, -5));
        CHECK.due("x", 5, o.about(3, 0));
        CHECK.due("x of the other", 5, o.about(11, 0));
    }

    private static void shiftOfOneAlone() {
        PileCaps o = twelve();
        o.whole(4, false);
        o.shift(4, 20, -20);
        for (int i = 0; i < 12; i++) {
            CHECK.due("x of " + i, i == 4 ? 20 : i - 6, o.about(i, 0));
            CHECK.due("y of " + i, i == 4 ? -20 : 6 - i, o.about(i, 1));
            CHECK.due("LENGTH of " + i, i + 1, o.about(i, 2));
            CHECK.due("STIFFNESS of " + i, 20 - i, o.about(i, 3));
            CHECK.due("WHOLE of " + i, i == 4 ? 0 : 1, o.about(i, 4));
        }
    }

    private static void shiftMakesItStandOrNot() {
        PileCaps o = twelve();
        CHECK.due("all twelve in one line", PileCaps.NO, o.shares(0));
        o.shift(11, 5, -6);
        CHECK.due("one is off by 1", 0, o.shares(0));
        o.shift(11, 6, -6);
        CHECK.due("in the line again", PileCaps.NO, o.shares(0));
    }

    /** Promise 7: "what was (1 WHOLE)." */
    private static void wholeThatIsWhole() {
        PileCaps o = twelve();
        for (int i = 0; i < 12; i++) {
            CHECK.due("whole(" + i + ", true)", 1, o.whole(i, true));
        }
        CHECK.due("count(2)", 12, o.count(2));
    }

    private static void brokenThatIsBroken() {
        PileCaps o = twelve();
        CHECK.due("whole(11, false)", 1, o.whole(11, false));
        CHECK.due("whole(11, false) again", 0, o.whole(11, false));
        CHECK.due("count(2)", 11, o.count(2));
        CHECK.due("whole(11, true)", 0, o.whole(11, true));
        CHECK.due("whole(11, true) again", 1, o.whole(11, true));
        CHECK.due("count(2)", 12, o.count(2));
    }

    private static void wholeOfOneAlone() {
        for (int broken = 0; broken < 12; broken++) {
            PileCaps o = twelve();
            o.whole(broken, false);
            for (int i = 0; i < 12; i++) {
                CHECK.due(broken + " is BROKEN: about(" + i + ", 4)", i == broken ? 0 : 1, o.about(i, 4));
            }
        }
    }

    private static void allBroken() {
        PileCaps o = twelve();
        o.shift(0, 20, 20);
        CHECK.due("shares(0)", 0, o.shares(0));
        for (int i = 0; i < 12; i++) {
            o.whole(i, false);
        }
        CHECK.due("count(2)", 0, o.count(2));
        CHECK.due("shares(0), all BROKEN", PileCaps.NO, o.shares(0));
        CHECK.due("over(0), all BROKEN", PileCaps.NO, o.over(0));
        CHECK.due("end(0), all BROKEN", PileCaps.NO, o.end(0));
        CHECK.due("least(), all BROKEN", PileCaps.NONE, o.least());
    }

    /** Promise 8: PULL and BEARING by the LAYERS and SCOUR that are there now. */
    private static void aboutGoesByTheGroundAsItIs() {
        PileCaps o = new PileCaps();
        o.pile(0, 0, 10, 1);
        int[][] due = {{0, 0}, {20, 25}, {20, 26}, {18, 24}, {14, 20}};
        for (int step = 0; step < due.length; step++) {
            switch (step) {
                case 1: o.layer(10, 2, 5); break;
                case 2: o.layer(10, 9, 6); break;
                case 3: o.rule(0, 1); break;
                case 4: o.rule(0, 3); break;
                default: break;
            }
            CHECK.due("step " + step + ": PULL", due[step][0], o.about(0, 5));
            CHECK.due("step " + step + ": BEARING", due[step][1], o.about(0, 6));
        }
    }
}
