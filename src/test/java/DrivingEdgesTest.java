/**
 * Promises 15 to 18 and Terms 3 at their edges, a test for each sentence that names one: BLOWS
 * that just do, a PILE that is REFUSED, THE PLANE at either end, numbers that are not there.
 */
public final class DrivingEdgesTest {
    private static final Check CHECK = new Check("DrivingEdgesTest");

    public static void main(String[] args) {
        blowsThatJustDo();
        energyThatJustDoes();
        refusedAtTheFirstUnit();
        refusedInTheMiddle();
        refusedAtTheLastUnit();
        whatIsLeftGoesOn();
        whatIsLeftMayDoForSeveral();
        nothingIsLeftAtFirst();
        blowsAreCountedAnewForEachUnit();
        theMostIsThisDrivesOwn();
        noBlowWhereNothingBears();
        itGoesByTheBearingOfEachDepth();
        itGoesByScour();
        theShortest();
        theLongest();
        leastAndGreatestNumbers();
        theBookIsEven();
        drivingOfABrokenOne();
        drivingChangesNoPile();
        planeAtTheTop();
        loadAboveAll();
        planeAtTheLength();
        planeJustAboveTheLength();
        planeWithoutSide();
        planeWithoutAnything();
        planeAtTheLeastDepth();
        planeUnderScour();
        planeBetweenLayers();
        planeWithinAUnit();
        dragAtTheGreatest();
        dragOfABrokenOne();
        numbersOfEachCall();
        numbersThatAreToldAnew();
        numberOfARefusedCall();
        numberBadAndNone();
        countOfEach();
        CHECK.end();
    }

    private static PileCaps ground(int length, int... layers) {
        PileCaps o = new PileCaps();
        for (int i = 0; i + 2 < layers.length; i += 3) {
            o.layer(layers[i], layers[i + 1], layers[i + 2]);
        }
        o.pile(0, 0, length, 1);
        return o;
    }

    /** The book: BLOWS, LEFT, the most BLOWS for one unit, ENERGY used up. */
    private static void drive(PileCaps o, int e, int m, int depth, long... book) {
        String call = "drive(0, " + e + ", " + m + ")";
        CHECK.due(call, depth, o.drive(0, e, m));
        CHECK.toldWholes(o, call, book);
    }

    private static void drag(PileCaps o, int g, long z, long zBelow, long force, long forceBelow) {
        String call = "drag(0, " + g + ")";
        CHECK.due(call, 0, o.drag(0, g));
        CHECK.told(o, call, 0, z, zBelow);
        CHECK.told(o, call, 1, force, forceBelow);
        CHECK.toldInAll(o, call, 2);
    }

    /** "If m BLOWS do not do for a unit, it is REFUSED": m that just do are enough. */
    private static void blowsThatJustDo() {
        PileCaps o = ground(1, 50, 0, 100);
        drive(o, 25, 4, 1, 4, 0, 4, 100);
        drive(o, 25, 3, 0, 3, 75, 3, 0);
        drive(o, 25, 5, 1, 4, 0, 4, 100);
    }

    /** "until that is at least what a PILE of LENGTH u + 1 would bear here". */
    private static void energyThatJustDoes() {
        PileCaps o = ground(1, 50, 7, 93);
        drive(o, 50, 2, 1, 2, 0, 2, 100);
        drive(o, 49, 2, 0, 2, 98, 2, 0);
        drive(o, 51, 2, 1, 2, 2, 2, 100);
        drive(o, 99, 1, 0, 1, 99, 1, 0);
        drive(o, 100, 1, 1, 1, 0, 1, 100);
        drive(o, 101, 1, 1, 1, 1, 1, 100);
    }

    /** "these BLOWS count, what they gave is LEFT." */
    private static void refusedAtTheFirstUnit() {
        PileCaps o = ground(9, 50, 0, 1000);
        drive(o, 1, 200, 0, 200, 200, 200, 0);
        drive(o, 4, 200, 0, 200, 800, 200, 0);
        drive(o, 999, 1, 0, 1, 999, 1, 0);
    }

    private static void refusedInTheMiddle() {
        PileCaps o = ground(9, 4, 0, 10, 5, 0, 500);
        // Three units of 10 by two BLOWS of 6, with 6 in all LEFT; the fourth ends above 500.
        drive(o, 6, 2, 3, 7, 12, 2, 30);
        drive(o, 15, 3, 3, 5, 45, 3, 30);
    }

    private static void refusedAtTheLastUnit() {
        PileCaps o = ground(4, 4, 0, 10, 5, 0, 500);
        drive(o, 10, 9, 3, 12, 90, 9, 30);
        drive(o, 10, 50, 4, 53, 0, 50, 530);
    }

    /** "it has what is LEFT .. each e more". */
    private static void whatIsLeftGoesOn() {
        PileCaps o = ground(3, 50, 0, 10);
        drive(o, 7, 2, 3, 5, 5, 2, 30);
        drive(o, 7, 1, 0, 1, 7, 1, 0);
        PileCaps steep = ground(3, 50, 1, 10);
        // 11, 12, 13: 12 leaves 1, 13 leaves 1, 13 leaves 0.
        drive(steep, 12, 1, 3, 3, 0, 1, 36);
    }

    private static void whatIsLeftMayDoForSeveral() {
        PileCaps o = ground(9, 50, 0, 10);
        drive(o, 90, 1, 9, 1, 0, 1, 90);
        drive(o, 89, 1, 9, 2, 88, 1, 90);
        drive(o, 45, 1, 9, 2, 0, 1, 90);
    }

    /** "(0 at first)": nothing is LEFT of a DRIVING that was told ahead of it. */
    private static void nothingIsLeftAtFirst() {
        PileCaps o = ground(2, 50, 0, 10);
        drive(o, 10000, 1, 2, 1, 9980, 1, 20);
        drive(o, 9, 1, 0, 1, 9, 1, 0);
        drive(o, 9, 1, 0, 1, 9, 1, 0);
    }

    /** "at most m BLOWS .. for a unit". */
    private static void blowsAreCountedAnewForEachUnit() {
        PileCaps o = ground(5, 50, 0, 30);
        drive(o, 10, 3, 5, 15, 0, 3, 150);
        drive(o, 10, 2, 0, 2, 20, 2, 0);
        PileCaps four = ground(4, 2, 0, 10, 50, 0, 20);
        drive(four, 10, 2, 4, 7, 0, 2, 70);
    }

    /** Promise 15: "2 the most BLOWS for one unit". */
    private static void theMostIsThisDrivesOwn() {
        PileCaps o = ground(3, 2, 0, 50, 50, 0, 10);
        drive(o, 10, 9, 3, 7, 0, 5, 70);
        drive(o, 50, 9, 3, 2, 30, 1, 70);
        drive(o, 10, 4, 0, 4, 40, 4, 0);
        drive(o, 10000, 1, 3, 1, 9930, 1, 70);
    }

    private static void noBlowWhereNothingBears() {
        drive(ground(100), 1, 1, 100, 0, 0, 0, 0);
        PileCaps o = ground(9, 5, 0, 0, 1, 4, 0, 1, 0, 0);
        drive(o, 1, 1, 5, 1, 1, 1, 0);
        drive(o, 1, 4, 9, 16, 0, 4, 16);
    }

    /** "what a PILE of LENGTH u + 1 would bear here (its BEARING)": the TIP of the unit below. */
    private static void itGoesByTheBearingOfEachDepth() {
        PileCaps o = ground(4, 2, 3, 100, 1, 5, 7, 9, 0, 40);
        // LENGTH 1: 3 + 100, 2: 6 + 7, 3: 11 + 40, 4: 11 + 40.
        drive(o, 103, 1, 4, 3, 91, 1, 218);
        drive(o, 102, 1, 0, 1, 102, 1, 0);
        drive(o, 1, 103, 4, 218, 0, 103, 218);
    }

    private static void itGoesByScour() {
        PileCaps o = ground(5, 50, 2, 0);
        drive(o, 1, 200, 5, 30, 0, 10, 30);
        o.rule(0, 3);
        drive(o, 1, 200, 5, 6, 0, 4, 6);
        o.rule(0, 20);
        drive(o, 1, 200, 5, 0, 0, 0, 0);
    }

    /** "(from 0, to its LENGTH less 1)". */
    private static void theShortest() {
        PileCaps o = ground(1, 1, 2, 3, 1, 5, 7);
        drive(o, 9, 1, 1, 1, 0, 1, 9);
        drive(o, 8, 1, 0, 1, 8, 1, 0);
    }

    private static void theLongest() {
        PileCaps o = ground(100, 50, 50, 1000);
        long used = 0;
        for (int length = 1; length <= 100; length++) {
            used += 50 * length + 1000;
        }
        long blows = (used + 9999) / 10000;
        drive(o, 10000, 200, 100, blows, 10000 * blows - used, 1, used);
        drive(o, 30, 200, 100, 11750, 0, 200, 352500);
        // 200 BLOWS of 29 are 5800: enough for LENGTH 96, and with the 2 LEFT too little for 97.
        drive(o, 29, 200, 96, 11338 + 200, 2 + 5800, 200, 328800);
    }

    private static void leastAndGreatestNumbers() {
        PileCaps o = ground(3, 50, 0, 200);
        drive(o, 1, 200, 3, 600, 0, 200, 600);
        drive(o, 1, 199, 0, 199, 199, 199, 0);
        drive(o, 1, 1, 0, 1, 1, 1, 0);
        drive(o, 10000, 1, 3, 1, 9400, 1, 600);
        drive(o, 10000, 200, 3, 1, 9400, 1, 600);
    }

    /** All BLOWS' ENERGY is what was used up and what is LEFT, REFUSED or not. */
    private static void theBookIsEven() {
        PileCaps o = ground(40, 10, 3, 80, 5, 0, 0, 10, 9, 300, 1, 20, 5);
        for (int e = 1; e < 400; e += 7) {
            o.drive(0, e, 1 + e % 6);
            CHECK.due("the book of " + e, (long) e * o.number(0, 0), o.number(1, 0) + o.number(3, 0));
        }
    }

    private static void drivingOfABrokenOne() {
        PileCaps o = ground(2, 50, 0, 10);
        o.whole(0, false);
        drive(o, 5, 2, 2, 4, 0, 2, 20);
    }

    private static void drivingChangesNoPile() {
        PileCaps o = ground(9, 50, 0, 100);
        drive(o, 10, 3, 0, 3, 30, 3, 0);
        CHECK.due("LENGTH", 9, o.about(0, 2));
        CHECK.due("BEARING", 100, o.about(0, 6));
        CHECK.due("WHOLE", 1, o.about(0, 4));
    }

    /** g that is just PULL and TIP: nothing is to hang above THE PLANE. */
    private static void planeAtTheTop() {
        PileCaps o = ground(10, 50, 2, 30);
        drag(o, 50, 0, 1, 50, 1);
        drag(o, 49, 1, 4, 99, 2);
    }

    /** "If g alone is more than PULL and TIP, there is none"; promise 16: "NONE". */
    private static void loadAboveAll() {
        PileCaps o = ground(10, 50, 2, 30);
        CHECK.due("drag(0, 51)", PileCaps.NONE, o.drag(0, 51));
        CHECK.due("drag(0, 100000)", PileCaps.NONE, o.drag(0, 100000));
        CHECK.toldInAll(o, "NONE tells nothing", 0);
        drag(o, 50, 0, 1, 50, 1);
    }

    /** "if not even g and all SIDE are TIP, it is at its LENGTH." */
    private static void planeAtTheLength() {
        PileCaps o = ground(10, 50, 2, 30);
        drag(o, 9, 10, 1, 29, 1);
        drag(o, 0, 10, 1, 20, 1);
        PileCaps hanging = ground(10, 8, 2, 0, 2, 0, 0, 50, 0, 30);
        // Only 8 units have SIDE: short of TIP it is at LENGTH, just at TIP the least depth does.
        drag(hanging, 13, 10, 1, 29, 1);
        drag(hanging, 14, 8, 1, 30, 1);
    }

    private static void planeJustAboveTheLength() {
        PileCaps o = ground(10, 50, 2, 30);
        drag(o, 10, 10, 1, 30, 1);
        drag(o, 11, 39, 4, 61, 2);
        drag(o, 12, 19, 2, 31, 1);
    }

    /** No SIDE at all: g is TIP (then the least depth, 0), less (its LENGTH) or more (none). */
    private static void planeWithoutSide() {
        PileCaps o = ground(10, 50, 0, 30);
        drag(o, 29, 10, 1, 29, 1);
        drag(o, 30, 0, 1, 30, 1);
        CHECK.due("drag(0, 31)", PileCaps.NONE, o.drag(0, 31));
        drag(o, 0, 10, 1, 0, 1);
    }

    private static void planeWithoutAnything() {
        PileCaps o = ground(100);
        drag(o, 0, 0, 1, 0, 1);
        CHECK.due("drag(0, 1)", PileCaps.NONE, o.drag(0, 1));
    }

    /** "If more than one depth does, it is the least." */
    private static void planeAtTheLeastDepth() {
        PileCaps o = ground(9, 2, 5, 0, 3, 0, 0, 2, 5, 0, 9, 0, 0);
        drag(o, 0, 2, 1, 10, 1);
        drag(o, 1, 19, 10, 21, 2);
        drag(o, 18, 1, 5, 19, 1);
        drag(o, 20, 0, 1, 20, 1);
        PileCaps more = ground(9, 2, 5, 0, 3, 0, 0, 50, 5, 2);
        // Of 32 in all, 10 are above the stretch without SIDE and 20 below it.
        drag(more, 12, 2, 1, 22, 1);
        drag(more, 11, 51, 10, 43, 2);
        drag(more, 13, 19, 10, 45, 2);
    }

    /** SCOUR gives no SIDE: with g as PULL and TIP 0 is the least depth, else it is below SCOUR. */
    private static void planeUnderScour() {
        PileCaps o = ground(10, 50, 2, 30);
        o.rule(0, 4);
        drag(o, 42, 0, 1, 42, 1);
        drag(o, 41, 17, 4, 83, 2);
        drag(o, 18, 10, 1, 30, 1);
        drag(o, 17, 10, 1, 29, 1);
        CHECK.due("drag(0, 43)", PileCaps.NONE, o.drag(0, 43));
        o.rule(0, 20);
        drag(o, 30, 0, 1, 30, 1);
        drag(o, 29, 10, 1, 29, 1);
    }

    private static void planeBetweenLayers() {
        PileCaps o = ground(8, 3, 4, 0, 50, 7, 3);
        // PULL 12 + 35, with TIP 50: at 26 just the upper LAYER hangs.
        drag(o, 26, 3, 1, 38, 1);
        drag(o, 24, 22, 7, 37, 1);
        drag(o, 28, 11, 4, 39, 1);
    }

    /** "SIDE of a unit goes with how much of it is above": depths by the greatest of SIDES. */
    private static void planeWithinAUnit() {
        PileCaps o = ground(1, 50, 50, 0);
        for (int g = 0; g <= 50; g++) {
            CHECK.due("drag(0, " + g + ")", 0, o.drag(0, g));
            long z = o.number(0, 0), below = o.number(0, 1);
            CHECK.due("the depth for " + g, (50 - g) * below, 100 * z);
            CHECK.due("g and SIDE above for " + g, (50 + g) * o.number(1, 1), 2 * o.number(1, 0));
        }
        drag(o, 49, 1, 100, 99, 2);
        drag(o, 0, 1, 2, 25, 1);
    }

    private static void dragAtTheGreatest() {
        PileCaps o = ground(100, 50, 50, 1000);
        drag(o, 6000, 0, 1, 6000, 1);
        drag(o, 5999, 1, 100, 11999, 2);
        drag(o, 0, 60, 1, 3000, 1);
        CHECK.due("drag(0, 6001)", PileCaps.NONE, o.drag(0, 6001));
        CHECK.due("drag(0, 100000)", PileCaps.NONE, o.drag(0, 100000));
    }

    private static void dragOfABrokenOne() {
        PileCaps o = ground(10, 50, 2, 30);
        o.whole(0, false);
        drag(o, 50, 0, 1, 50, 1);
    }

    /** Promise 17: "there is no such number": just past the last one of each call. */
    private static void numbersOfEachCall() {
        PileCaps o = ground(10, 50, 2, 30);
        CHECK.toldInAll(o, "nothing yet", 0);
        o.pile(5, 0, 10, 1);
        o.pile(0, 5, 10, 1);
        o.load(0, 9, 1, 1);
        o.drag(0, 0);
        CHECK.toldInAll(o, "drag", 2);
        o.drive(0, 1, 1);
        CHECK.toldInAll(o, "drive", 4);
        o.shares(0);
        CHECK.toldInAll(o, "shares of three", 6);
        o.end(0);
        CHECK.toldInAll(o, "end", 1);
        for (int piles = 4; piles <= 12; piles++) {
            o.pile(piles, piles, 10, 1);
            o.shares(0);
            CHECK.toldInAll(o, "shares of " + piles, 3 + piles);
        }
    }

    /** "What was told last": nothing is there still of what was told ahead of it. */
    private static void numbersThatAreToldAnew() {
        PileCaps o = ground(10, 50, 2, 30);
        o.pile(5, 0, 10, 1);
        o.pile(0, 5, 10, 1);
        o.load(0, 50, 0, 0);
        o.shares(0);
        o.end(0);
        CHECK.toldWholes(o, "end after shares", 1);
        o.drag(0, 50);
        CHECK.toldWholes(o, "drag after end", 0, 50);
        o.shares(0);
        CHECK.told(o, "shares after drag", 3, 50, 1);
        CHECK.toldInAll(o, "shares after drag", 6);
    }

    private static void numberOfARefusedCall() {
        PileCaps o = ground(10, 50, 2, 30);
        o.drag(0, 50);
        CHECK.due("drive(0, 0, 1)", PileCaps.BAD, o.drive(0, 0, 1));
        CHECK.due("drag(0, 51)", PileCaps.NONE, o.drag(0, 51));
        CHECK.due("drag(0, -1)", PileCaps.BAD, o.drag(0, -1));
        CHECK.due("shares(0)", PileCaps.NO, o.shares(0));
        CHECK.due("end(0)", PileCaps.NO, o.end(0));
        CHECK.due("number(2, 0)", PileCaps.NONE, o.number(2, 0));
        CHECK.due("number(-1, 0)", PileCaps.BAD, o.number(-1, 0));
        CHECK.toldWholes(o, "of the first drag still", 0, 50);
    }

    /** "NONE: -4, there is no such number; BAD: i below 0, what." */
    private static void numberBadAndNone() {
        PileCaps o = ground(10, 50, 2, 30);
        CHECK.due("NONE", -4, o.number(0, 0));
        CHECK.due("i below 0, nothing told", PileCaps.BAD, o.number(-1, 1));
        CHECK.due("what is none, nothing told", PileCaps.BAD, o.number(0, 2));
        o.drag(0, 50);
        CHECK.due("the last one", 50, o.number(1, 0));
        CHECK.due("past the last one", PileCaps.NONE, o.number(2, 1));
        CHECK.due("i below 0", PileCaps.BAD, o.number(-1, 1));
        CHECK.due("what below 0", PileCaps.BAD, o.number(0, -1));
        CHECK.due("what above 1", PileCaps.BAD, o.number(0, 2));
    }

    /** Promise 18, empty and full. */
    private static void countOfEach() {
        PileCaps o = new PileCaps();
        int[] full = {6, 12, 12, 18};
        for (int what = 0; what < full.length; what++) {
            CHECK.due("empty: count(" + what + ")", 0, o.count(what));
        }
        for (int i = 0; i < 20; i++) {
            o.layer(1, 1, 1);
            o.pile(i, 0, 1, 1);
            o.load(i % 3, 1, 1, 1);
        }
        for (int what = 0; what < full.length; what++) {
            CHECK.due("full: count(" + what + ")", full[what], o.count(what));
        }
        o.whole(0, false);
        o.noLoads(1);
        int[] less = {6, 12, 11, 12};
        for (int what = 0; what < less.length; what++) {
            CHECK.due("less: count(" + what + ")", less[what], o.count(what));
        }
    }
}
