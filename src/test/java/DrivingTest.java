/** Promises 15 to 18: drive, drag, number, count. */
public final class DrivingTest {
    private static final Check CHECK = new Check("DrivingTest");

    public static void main(String[] args) {
        driveUntilRefused();
        driveToLength();
        driveRefusedAtOnce();
        driveWithoutGround();
        driveGoesByScour();
        driveBounds();
        dragWithinAUnit();
        dragAtTheEnds();
        dragTheLeastDepth();
        dragBounds();
        numberBounds();
        countBounds();
        constants();
        CHECK.end();
    }

    private static PileCaps twoLayers() {
        PileCaps o = new PileCaps();
        o.layer(10, 2, 50);
        o.layer(20, 5, 300);
        o.pile(0, 0, 20, 1);
        return o;
    }

    private static void book(PileCaps o, String call, long... due) {
        for (int i = 0; i < due.length; i++) {
            CHECK.told(o, call, i, due[i], 1);
        }
        CHECK.toldInAll(o, call, due.length);
    }

    private static void driveUntilRefused() {
        PileCaps o = twoLayers();
        CHECK.due("drive(0, 100, 3)", 11, o.drive(0, 100, 3));
        book(o, "drive(0, 100, 3)", 15, 315, 3, 1185);
        CHECK.due("the PILE is as it was", 20, o.about(0, 2));
        CHECK.due("a second drive starts anew", 11, o.drive(0, 100, 3));
        book(o, "drive again", 15, 315, 3, 1185);
    }

    private static void driveToLength() {
        PileCaps o = twoLayers();
        int used = 0;
        for (int length = 1; length <= 20; length++) {
            used += length < 10 ? 2 * length + 50 : 20 + 5 * (length - 10) + 300;
        }
        CHECK.due("drive(0, 1000, 1)", 20, o.drive(0, 1000, 1));
        int blows = (used + 999) / 1000;
        book(o, "drive(0, 1000, 1)", blows, 1000L * blows - used, 1, used);
        CHECK.due("drive(0, 10000, 200)", 20, o.drive(0, 10000, 200));
        book(o, "drive(0, 10000, 200)", 1, 10000 - used, 1, used);
        o.whole(0, false);
        CHECK.due("a BROKEN one", 20, o.drive(0, 10000, 200));
    }

    private static void driveRefusedAtOnce() {
        PileCaps o = twoLayers();
        CHECK.due("just too little", 0, o.drive(0, 51, 1));
        book(o, "just too little", 1, 51, 1, 0);
        CHECK.due("just enough, for one", 1, o.drive(0, 52, 1));
        book(o, "just enough, for one", 2, 52, 1, 52);
        CHECK.due("drive(0, 1, 1)", 0, o.drive(0, 1, 1));
        book(o, "drive(0, 1, 1)", 1, 1, 1, 0);
    }

    private static void driveWithoutGround() {
        PileCaps o = new PileCaps();
        o.pile(0, 0, 100, 1);
        CHECK.due("drive(0, 1, 1)", 100, o.drive(0, 1, 1));
        book(o, "no BLOW is needed", 0, 0, 0, 0);
    }

    private static void driveGoesByScour() {
        PileCaps o = new PileCaps();
        o.layer(5, 3, 0);
        o.pile(0, 0, 6, 1);
        o.rule(0, 4);
        CHECK.due("drive(0, 1, 200)", 6, o.drive(0, 1, 200));
        book(o, "below SCOUR", 9, 0, 6, 9);
    }

    private static void driveBounds() {
        PileCaps o = twoLayers();
        o.drive(0, 100, 3);
        int[][] bad = {{-1, 1, 1}, {1, 1, 1}, {0, 0, 1}, {0, 10001, 1}, {0, 1, 0}, {0, 1, 201}, {12, 1, 1},
            {Integer.MAX_VALUE, 1, 1}, {0, Integer.MIN_VALUE, 1}, {0, 1, Integer.MAX_VALUE}, {0, -1, 1}, {0, 1, -1}};
        for (int[] b : bad) {
            CHECK.due("drive(" + b[0] + ", " + b[1] + ", " + b[2] + ")", PileCaps.BAD, o.drive(b[0], b[1], b[2]));
        }
        book(o, "told as before", 15, 315, 3, 1185);
        CHECK.due("drive(0, 1, 200)", 9, o.drive(0, 1, 200));
        CHECK.due("drive(0, 10000, 1)", 20, o.drive(0, 10000, 1));
    }

    private static void plane(PileCaps o, int g, long z, long zBelow, long force, long forceBelow) {
        String call = "drag(0, " + g + ")";
        CHECK.due(call, 0, o.drag(0, g));
        CHECK.told(o, call, 0, z, zBelow);
        CHECK.told(o, call, 1, force, forceBelow);
        CHECK.toldInAll(o, call, 2);
    }

    private static void dragWithinAUnit() {
        PileCaps o = twoLayers();
        plane(o, 300, 13, 1, 335, 1);
        plane(o, 301, 129, 10, 671, 2);
        plane(o, 369, 1, 4, 739, 2);
        plane(o, 330, 10, 1, 350, 1);
        plane(o, 329, 101, 10, 699, 2);
        plane(o, 331, 39, 4, 701, 2);
    }

    private static void dragAtTheEnds() {
        PileCaps o = twoLayers();
        plane(o, 0, 20, 1, 70, 1);
        plane(o, 229, 20, 1, 299, 1);
        plane(o, 230, 20, 1, 300, 1);
        plane(o, 370, 0, 1, 370, 1);
        CHECK.due("drag(0, 371)", PileCaps.NONE, o.drag(0, 371));
        CHECK.told(o, "told as before", 0, 0, 1);
        CHECK.told(o, "told as before", 1, 370, 1);
        CHECK.due("drag(0, 100000)", PileCaps.NONE, o.drag(0, 100000));
        PileCaps bare = new PileCaps();
        bare.pile(0, 0, 7, 1);
        plane(bare, 0, 0, 1, 0, 1);
        CHECK.due("drag(0, 1) without ground", PileCaps.NONE, bare.drag(0, 1));
    }

    private static void dragTheLeastDepth() {
        PileCaps o = new PileCaps();
        o.layer(4, 3, 0);
        o.layer(5, 0, 0);
        o.layer(4, 3, 0);
        o.pile(0, 0, 13, 1);
        plane(o, 0, 4, 1, 12, 1);
        o.rule(0, 4);
        plane(o, 0, 11, 1, 6, 1);
        plane(o, 12, 0, 1, 12, 1);
        PileCaps flat = new PileCaps();
        flat.layer(1, 3, 5);
        flat.layer(1, 0, 8);
        flat.pile(0, 0, 9, 1);
        plane(flat, 5, 1, 1, 8, 1);
        plane(flat, 4, 9, 1, 7, 1);
    }

    private static void dragBounds() {
        PileCaps o = twoLayers();
        o.drag(0, 301);
        int[][] bad = {{-1, 0}, {1, 0}, {0, -1}, {0, 100001}, {12, 0}, {Integer.MIN_VALUE, 0}, {Integer.MAX_VALUE, 0},
            {0, Integer.MIN_VALUE}, {0, Integer.MAX_VALUE}};
        for (int[] b : bad) {
            CHECK.due("drag(" + b[0] + ", " + b[1] + ")", PileCaps.BAD, o.drag(b[0], b[1]));
        }
        CHECK.told(o, "told as before", 0, 129, 10);
    }

    private static void numberBounds() {
        PileCaps o = twoLayers();
        CHECK.due("nothing was told", PileCaps.NONE, o.number(0, 1));
        o.drag(0, 301);
        CHECK.due("number(2, 0)", PileCaps.NONE, o.number(2, 0));
        CHECK.due("number(15, 0)", PileCaps.NONE, o.number(15, 0));
        CHECK.due("number(MAX, 1)", PileCaps.NONE, o.number(Integer.MAX_VALUE, 1));
        int[][] bad = {{-1, 0}, {0, -1}, {0, 2}, {Integer.MIN_VALUE, 0}, {0, Integer.MAX_VALUE}, {0, Integer.MIN_VALUE}};
        for (int[] b : bad) {
            CHECK.due("number(" + b[0] + ", " + b[1] + ")", PileCaps.BAD, o.number(b[0], b[1]));
        }
        CHECK.due("BAD is ahead of NONE", PileCaps.BAD, o.number(99, 2));
        o.drive(0, 100, 3);
        CHECK.due("what was told last alone", 15, o.number(0, 0));
    }

    private static void countBounds() {
        PileCaps o = twoLayers();
        o.pile(1, 1, 1, 1);
        o.pile(1, 2, 1, 1);
        o.whole(1, false);
        for (int kase = 0; kase < 3; kase++) {
            o.load(kase, 1, 1, 1);
            o.load(kase, 1, 1, 1);
        }
        int[] due = {2, 3, 2, 6};
        for (int what = 0; what < due.length; what++) {
            CHECK.due("count(" + what + ")", due[what], o.count(what));
        }
        for (int bad : new int[] {-1, 4, Integer.MIN_VALUE, Integer.MAX_VALUE}) {
            CHECK.due("count(" + bad + ")", PileCaps.BAD, o.count(bad));
        }
    }

    private static void constants() {
        CHECK.due("BAD", -1, PileCaps.BAD);
        CHECK.due("NO", -2, PileCaps.NO);
        CHECK.due("FULL", -3, PileCaps.FULL);
        CHECK.due("NONE", -4, PileCaps.NONE);
    }
}
