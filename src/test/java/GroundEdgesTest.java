/**
 * Promises 1 to 4 and Terms 1 at their edges, a test for each sentence that names one: where
 * LAYERS begin and end, what is full, SCOUR, what a new object has.
 */
public final class GroundEdgesTest {
    private static final Check CHECK = new Check("GroundEdgesTest");

    public static void main(String[] args) {
        noLayersAtFirst();
        noPilesAtFirst();
        noLoadsAtFirst();
        scourAndSpacingAreZeroAtFirst();
        objectsShareNothing();
        layersZeroToFive();
        theSeventhLayerIsFull();
        withoutLayersBothAreZero();
        unitsLieInLayersFromTheTop();
        theUnitJustBelow();
        theLastGoesOnForEver();
        aLayerBelowEndsTheOneAbove();
        thickestAndThinnest();
        leastAndGreatestPull();
        scourTakesTheTopUnitsAlone();
        scourUpToTheLengthAndPastIt();
        scourAcrossLayers();
        scourWithoutLayers();
        scourLeavesTip();
        scourMayGoBack();
        changeToTheSame();
        changeAtTheBounds();
        changeOfALayerThatNoPileReaches();
        changeTakesOneNumberAlone();
        ruleToTheSame();
        ruleTakesOneNumberAlone();
        CHECK.end();
    }

    private static void pull(PileCaps o, int pile, String call, int pull, int bearing) {
        CHECK.due(call + ": PULL", pull, o.about(pile, 5));
        CHECK.due(call + ": BEARING", bearing, o.about(pile, 6));
    }

    /** A PILE of each LENGTH from 1 to 12: pile i is i + 1 long. */
    private static PileCaps pilesOfLengths() {
        PileCaps o = new PileCaps();
        for (int length = 1; length <= 12; length++) {
            o.pile(0, 0, length, 1);
        }
        return o;
    }

    /** Promise 1: "No LAYERS, PILES, LOADS." */
    private static void noLayersAtFirst() {
        CHECK.due("new: count(0)", 0, new PileCaps().count(0));
        CHECK.due("new: the first LAYER", 0, new PileCaps().layer(1, 1, 1));
        CHECK.due("new: change(0, 1, 1)", PileCaps.BAD, new PileCaps().change(0, 1, 1));
    }

    private static void noPilesAtFirst() {
        CHECK.due("new: count(1)", 0, new PileCaps().count(1));
        CHECK.due("new: count(2)", 0, new PileCaps().count(2));
        CHECK.due("new: the first PILE", 0, new PileCaps().pile(1, 1, 1, 1));
        CHECK.due("new: shift(0, 1, 1)", PileCaps.BAD, new PileCaps().shift(0, 1, 1));
        CHECK.due("new: least()", PileCaps.NONE, new PileCaps().least());
    }

    private static void noLoadsAtFirst() {
        CHECK.due("new: count(3)", 0, new PileCaps().count(3));
        for (int kase = 0; kase < 3; kase++) {
            CHECK.due("new: noLoads(" + kase + ")", 0, new PileCaps().noLoads(kase));
            CHECK.due("new: the first LOAD of " + kase, 1, new PileCaps().load(kase, 1, 1, 1));
            CHECK.due("new: shares(" + kase + ")", PileCaps.NO, new PileCaps().shares(kase));
            CHECK.due("new: over(" + kase + ")", PileCaps.NO, new PileCaps().over(kase));
            CHECK.due("new: end(" + kase + ")", PileCaps.NO, new PileCaps().end(kase));
        }
        CHECK.toldInAll(new PileCaps(), "new", 0);
    }

    /** Terms: "SCOUR .. 0 at first", "SPACING .. 0 at first". */
    private static void scourAndSpacingAreZeroAtFirst() {
        CHECK.due("new: SCOUR was", 0, new PileCaps().rule(0, 20));
        CHECK.due("new: SPACING was", 0, new PileCaps().rule(1, 40));
        PileCaps o = new PileCaps();
        o.layer(1, 1, 0);
        o.pile(0, 0, 1, 1);
        o.pile(0, 0, 1, 1);
        o.pile(0, 1, 1, 1);
        o.pile(1, 0, 1, 1);
        CHECK.due("new: the top unit has its SIDE", 1, o.about(0, 5));
        CHECK.due("new: two at one place are apart enough, but in one line", 13, o.least());
    }

    private static void objectsShareNothing() {
        PileCaps one = new PileCaps();
        PileCaps other = new PileCaps();
        one.layer(9, 9, 9);
        one.pile(9, 9, 9, 9);
        one.load(0, 9, 9, 9);
        one.rule(0, 9);
        one.rule(1, 9);
        one.drive(0, 9, 9);
        for (int what = 0; what < 4; what++) {
            CHECK.due("the other's count(" + what + ")", 0, other.count(what));
        }
        CHECK.due("the other's SCOUR", 0, other.rule(0, 0));
        CHECK.due("the other's SPACING", 0, other.rule(1, 0));
        CHECK.toldInAll(other, "the other", 0);
    }

    /** "LAYERS 0 to 5 at most"; promise 2: "its number". */
    private static void layersZeroToFive() {
        PileCaps o = new PileCaps();
        for (int i = 0; i <= 5; i++) {
            CHECK.due("layer " + i, i, o.layer(50, 50, 1000));
            CHECK.due("count(0) with " + i, i + 1, o.count(0));
        }
    }

    /** Promise 2: "FULL: 6." */
    private static void theSeventhLayerIsFull() {
        PileCaps o = pilesOfLengths();
        for (int i = 0; i < 6; i++) {
            o.layer(1, 1, 1);
        }
        for (int again = 0; again < 3; again++) {
            CHECK.due("one more than six", PileCaps.FULL, o.layer(50, 50, 1000));
        }
        CHECK.due("there are six still", 6, o.count(0));
        pull(o, 11, "nothing came of the seventh", 12, 13);
    }

    /** "Without LAYERS both are 0." */
    private static void withoutLayersBothAreZero() {
        PileCaps o = new PileCaps();
        o.pile(0, 0, 1, 1);
        o.pile(0, 0, 100, 1);
        pull(o, 0, "the shortest, no LAYERS", 0, 0);
        pull(o, 1, "the longest, no LAYERS", 0, 0);
    }

    /** "PULL: the sum over its units of the SIDE of the LAYER in which that unit lies." */
    private static void unitsLieInLayersFromTheTop() {
        PileCaps o = pilesOfLengths();
        o.layer(1, 1, 0);
        o.layer(2, 10, 0);
        o.layer(3, 50, 0);
        o.layer(4, 0, 0);
        o.layer(1, 7, 0);
        o.layer(50, 20, 0);
        int[] due = {1, 11, 21, 71, 121, 171, 171, 171, 171, 171, 178, 198};
        for (int i = 0; i < due.length; i++) {
            CHECK.due("PULL at LENGTH " + (i + 1), due[i], o.about(i, 5));
        }
    }

    /** "the TIP of the LAYER in which the unit just below it lies." */
    private static void theUnitJustBelow() {
        PileCaps o = pilesOfLengths();
        o.layer(1, 0, 9);
        o.layer(2, 0, 100);
        o.layer(3, 0, 0);
        o.layer(4, 0, 1000);
        o.layer(1, 0, 3);
        o.layer(50, 0, 77);
        int[] due = {100, 100, 0, 0, 0, 1000, 1000, 1000, 1000, 3, 77, 77};
        for (int i = 0; i < due.length; i++) {
            CHECK.due("BEARING at LENGTH " + (i + 1), due[i], o.about(i, 6));
        }
    }

    /** "the last one goes on below for ever." */
    private static void theLastGoesOnForEver() {
        PileCaps o = new PileCaps();
        o.layer(5, 2, 30);
        for (int length : new int[] {1, 4, 5, 6, 99, 100}) {
            int pile = o.pile(0, 0, length, 1);
            pull(o, pile, "one LAYER, LENGTH " + length, 2 * length, 2 * length + 30);
        }
        PileCaps six = new PileCaps();
        for (int i = 0; i < 6; i++) {
            six.layer(1, i == 5 ? 3 : 0, i == 5 ? 40 : 0);
        }
        for (int length : new int[] {4, 5, 6, 7, 100}) {
            int pile = six.pile(0, 0, length, 1);
            int pull = length < 5 ? 0 : 3 * (length - 5);
            pull(six, pile, "six LAYERS, LENGTH " + length, pull, length < 5 ? 0 : pull + 40);
        }
    }

    /** Promise 2: "A LAYER below those": the last one is so THICK as it was told from then on. */
    private static void aLayerBelowEndsTheOneAbove() {
        PileCaps o = pilesOfLengths();
        o.layer(4, 2, 30);
        pull(o, 3, "LENGTH 4 in one LAYER", 8, 38);
        pull(o, 5, "LENGTH 6 in one LAYER", 12, 42);
        o.layer(1, 0, 7);
        pull(o, 2, "LENGTH 3, a LAYER below", 6, 36);
        pull(o, 3, "LENGTH 4, a LAYER below", 8, 15);
        pull(o, 5, "LENGTH 6, a LAYER below", 8, 15);
    }

    /** "THICK (1 to 50 units)". */
    private static void thickestAndThinnest() {
        PileCaps o = new PileCaps();
        for (int i = 0; i < 6; i++) {
            o.layer(50, i + 1, 100 * i);
        }
        o.pile(0, 0, 49, 1);
        o.pile(0, 0, 50, 1);
        o.pile(0, 0, 51, 1);
        o.pile(0, 0, 99, 1);
        o.pile(0, 0, 100, 1);
        pull(o, 0, "LENGTH 49 of 50", 49, 49);
        pull(o, 1, "LENGTH 50 of 50", 50, 150);
        pull(o, 2, "LENGTH 51 of 50", 52, 152);
        pull(o, 3, "LENGTH 99 of 100", 148, 248);
        pull(o, 4, "LENGTH 100 of 100", 150, 350);
    }

    private static void leastAndGreatestPull() {
        PileCaps o = new PileCaps();
        o.layer(50, 50, 1000);
        o.pile(0, 0, 100, 1);
        pull(o, 0, "the greatest", 5000, 6000);
        o.change(0, 0, 0);
        pull(o, 0, "no SIDE", 0, 1000);
        o.change(0, 1, 0);
        pull(o, 0, "no TIP either", 0, 0);
    }

    /** "SCOUR: so many units .. at the top give no SIDE." */
    private static void scourTakesTheTopUnitsAlone() {
        PileCaps o = new PileCaps();
        o.layer(50, 1, 0);
        o.pile(0, 0, 100, 1);
        for (int scour = 0; scour <= 20; scour++) {
            CHECK.due("SCOUR was", Math.max(0, scour - 1), o.rule(0, scour));
            CHECK.due("PULL with SCOUR " + scour, 100 - scour, o.about(0, 5));
        }
    }

    private static void scourUpToTheLengthAndPastIt() {
        PileCaps o = pilesOfLengths();
        o.layer(50, 3, 8);
        o.rule(0, 6);
        int[] due = {0, 0, 0, 0, 0, 0, 3, 6, 9, 12, 15, 18};
        for (int i = 0; i < due.length; i++) {
            pull(o, i, "SCOUR 6, LENGTH " + (i + 1), due[i], due[i] + 8);
        }
    }

    private static void scourAcrossLayers() {
        PileCaps o = pilesOfLengths();
        o.layer(2, 1, 0);
        o.layer(3, 10, 0);
        o.layer(1, 50, 0);
        // LENGTH 11: units 0, 1 give 1 each, 2 to 4 give 10 each, 5 to 10 give 50 each.
        int[] due = {332, 331, 330, 320, 310, 300, 250, 200};
        for (int scour = 0; scour < due.length; scour++) {
            o.rule(0, scour);
            CHECK.due("PULL with SCOUR " + scour, due[scour], o.about(10, 5));
        }
    }

    private static void scourWithoutLayers() {
        PileCaps o = pilesOfLengths();
        o.rule(0, 5);
        pull(o, 9, "SCOUR, no LAYERS", 0, 0);
        o.layer(1, 4, 9);
        pull(o, 9, "a LAYER after SCOUR", 20, 29);
    }

    /** SCOUR is of SIDE; the TIP of the unit just below is there, in SCOUR too. */
    private static void scourLeavesTip() {
        PileCaps o = pilesOfLengths();
        o.layer(3, 5, 60);
        o.layer(3, 5, 700);
        o.rule(0, 20);
        pull(o, 0, "LENGTH 1 in SCOUR 20", 0, 60);
        pull(o, 2, "LENGTH 3 in SCOUR 20", 0, 700);
        pull(o, 11, "LENGTH 12 in SCOUR 20", 0, 700);
    }

    private static void scourMayGoBack() {
        PileCaps o = pilesOfLengths();
        o.layer(50, 2, 0);
        o.rule(0, 20);
        CHECK.due("SCOUR was", 20, o.rule(0, 0));
        pull(o, 11, "SCOUR gone", 24, 24);
    }

    /** Promise 3: "what it was", also when it stays so. */
    private static void changeToTheSame() {
        PileCaps o = pilesOfLengths();
        o.layer(10, 2, 50);
        for (int again = 0; again < 2; again++) {
            CHECK.due("change(0, 0, 2)", 2, o.change(0, 0, 2));
            CHECK.due("change(0, 1, 50)", 50, o.change(0, 1, 50));
        }
        pull(o, 0, "as it was", 2, 52);
    }

    private static void changeAtTheBounds() {
        PileCaps o = pilesOfLengths();
        o.layer(10, 2, 50);
        CHECK.due("change(0, 0, 50)", 2, o.change(0, 0, 50));
        CHECK.due("change(0, 0, 0)", 50, o.change(0, 0, 0));
        CHECK.due("change(0, 0, 1)", 0, o.change(0, 0, 1));
        CHECK.due("change(0, 1, 1000)", 50, o.change(0, 1, 1000));
        CHECK.due("change(0, 1, 0)", 1000, o.change(0, 1, 0));
        CHECK.due("change(0, 1, 1)", 0, o.change(0, 1, 1));
        pull(o, 1, "the last of each", 2, 3);
    }

    private static void changeOfALayerThatNoPileReaches() {
        PileCaps o = pilesOfLengths();
        o.layer(13, 2, 50);
        o.layer(1, 3, 60);
        CHECK.due("change(1, 0, 9)", 3, o.change(1, 0, 9));
        CHECK.due("change(1, 1, 900)", 60, o.change(1, 1, 900));
        pull(o, 11, "LENGTH 12 of 13", 24, 74);
    }

    private static void changeTakesOneNumberAlone() {
        PileCaps o = new PileCaps();
        for (int i = 0; i < 6; i++) {
            o.layer(1, i, 10 + i);
        }
        o.change(2, 0, 40);
        o.change(3, 1, 900);
        for (int i = 0; i < 6; i++) {
            CHECK.due("SIDE of " + i, i == 2 ? 40 : i, o.change(i, 0, 0));
            CHECK.due("TIP of " + i, i == 3 ? 900 : 10 + i, o.change(i, 1, 0));
        }
    }

    /** Promise 4: "what it was", also when it stays so. */
    private static void ruleToTheSame() {
        PileCaps o = new PileCaps();
        o.rule(0, 20);
        o.rule(1, 40);
        for (int again = 0; again < 2; again++) {
            CHECK.due("rule(0, 20)", 20, o.rule(0, 20));
            CHECK.due("rule(1, 40)", 40, o.rule(1, 40));
        }
    }

    private static void ruleTakesOneNumberAlone() {
        PileCaps o = new PileCaps();
        o.rule(0, 13);
        CHECK.due("SPACING after SCOUR", 0, o.rule(1, 17));
        CHECK.due("SCOUR after SPACING", 13, o.rule(0, 0));
        CHECK.due("SPACING after SCOUR again", 17, o.rule(1, 0));
    }
}
