/**
 * The bounds of every number of every call, one test a promise: at the least and the most that
 * the document's Terms allow, one past each, and far off. An object of its own for each call.
 */
public final class BoundsTest {
    private static final Check CHECK = new Check("BoundsTest");
    private static final int BAD = PileCaps.BAD;

    public static void main(String[] args) {
        layer();
        change();
        changeBeforeAndAfterLayers();
        rule();
        pile();
        shift();
        whole();
        about();
        noPileIsThere();
        load();
        casesZeroToTwo();
        drive();
        drag();
        number();
        count();
        CHECK.end();
    }

    /** Three PILES that stand, a LOAD in each CASE, two LAYERS. */
    private static PileCaps site() {
        PileCaps o = new PileCaps();
        o.layer(10, 2, 50);
        o.layer(20, 5, 300);
        o.pile(0, 0, 20, 1);
        o.pile(10, 0, 20, 1);
        o.pile(0, 10, 20, 1);
        for (int kase = 0; kase < 3; kase++) {
            o.load(kase, 10, 1, 1);
        }
        return o;
    }

    /** Terms 1: THICK 1 to 50, SIDE 0 to 50, TIP 0 to 1000. */
    private static void layer() {
        CHECK.bounds("layer: THICK", 1, 50, 0, BAD, v -> new PileCaps().layer(v, 3, 5));
        CHECK.bounds("layer: SIDE", 0, 50, 0, BAD, v -> new PileCaps().layer(3, v, 5));
        CHECK.bounds("layer: TIP", 0, 1000, 0, BAD, v -> new PileCaps().layer(3, 3, v));
    }

    /** Promise 3: SIDE is what = 0, TIP is what = 1; a LAYER that is there. */
    private static void change() {
        CHECK.bounds("change: SIDE", 0, 50, 5, BAD, v -> site().change(1, 0, v));
        CHECK.bounds("change: TIP", 0, 1000, 300, BAD, v -> site().change(1, 1, v));
        CHECK.bounds("change: what", 0, 1, 1, BAD, v -> site().change(0, v, 7) == (v == 0 ? 2 : 50) ? 1 : BAD);
        CHECK.due("change: a TIP's number is no SIDE's", BAD, site().change(0, 0, 1000));
    }

    /** Promise 3: no LAYER is there at first, six at most. */
    private static void changeBeforeAndAfterLayers() {
        CHECK.due("change without LAYERS", BAD, new PileCaps().change(0, 0, 1));
        PileCaps o = new PileCaps();
        for (int i = 0; i < 6; i++) {
            CHECK.due("change one past the last of " + i, BAD, o.change(i, 1, 1));
            o.layer(1, i, 10 + i);
            CHECK.due("change the last of " + (i + 1), 10 + i, o.change(i, 1, 1));
        }
        CHECK.bounds("change: LAYER of six, TIP", 0, 5, 1, BAD, v -> o.change(v, 1, 1));
        for (int i = 0; i < 6; i++) {
            CHECK.due("change the SIDE of " + i, i, o.change(i, 0, 9));
        }
        CHECK.bounds("change: LAYER of six, SIDE", 0, 5, 9, BAD, v -> o.change(v, 0, 9));
    }

    /** Terms 1 and 2: SCOUR 0 to 20, SPACING 0 to 40; both 0 at first. */
    private static void rule() {
        CHECK.bounds("rule: SCOUR", 0, 20, 0, BAD, v -> new PileCaps().rule(0, v));
        CHECK.bounds("rule: SPACING", 0, 40, 0, BAD, v -> new PileCaps().rule(1, v));
        CHECK.bounds("rule: what", 0, 1, 0, BAD, v -> new PileCaps().rule(v, 3));
        CHECK.due("rule: a SPACING's number is no SCOUR's", BAD, new PileCaps().rule(0, 40));
    }

    /** Terms 1: x, y -20 to 20, LENGTH 1 to 100, STIFFNESS 1 to 20. */
    private static void pile() {
        CHECK.bounds("pile: x", -20, 20, 0, BAD, v -> new PileCaps().pile(v, 1, 5, 2));
        CHECK.bounds("pile: y", -20, 20, 0, BAD, v -> new PileCaps().pile(1, v, 5, 2));
        CHECK.bounds("pile: LENGTH", 1, 100, 0, BAD, v -> new PileCaps().pile(1, 1, v, 2));
        CHECK.bounds("pile: STIFFNESS", 1, 20, 0, BAD, v -> new PileCaps().pile(1, 1, 5, v));
    }

    /** Promise 6: a PILE that is there; x, y -20 to 20. */
    private static void shift() {
        CHECK.bounds("shift: PILE", 0, 2, 0, BAD, v -> site().shift(v, 3, 4));
        CHECK.bounds("shift: x", -20, 20, 0, BAD, v -> site().shift(1, v, 4));
        CHECK.bounds("shift: y", -20, 20, 0, BAD, v -> site().shift(1, 4, v));
    }

    /** Promise 7: a PILE that is there. */
    private static void whole() {
        CHECK.bounds("whole: PILE, false", 0, 2, 1, BAD, v -> site().whole(v, false));
        CHECK.bounds("whole: PILE, true", 0, 2, 1, BAD, v -> site().whole(v, true));
    }

    /** Promise 8: BAD is -1000 here, as x and y may be -1. */
    private static void about() {
        CHECK.bounds("about: PILE", 0, 2, 20, -1000, v -> site().about(v, 2));
        CHECK.bounds("about: what", 0, 6, 1, -1000, v -> {
            PileCaps o = new PileCaps();
            o.layer(1, 1, 0);
            o.pile(1, 1, 1, 1);
            return o.about(0, v);
        });
        PileCaps o = new PileCaps();
        o.pile(-1, -1, 1, 1);
        CHECK.due("about: x -1 is no BAD", -1, o.about(0, 0));
        CHECK.due("about: y -1 is no BAD", -1, o.about(0, 1));
    }

    /** BAD: there is no such thing: no PILE is there at first, twelve at most. */
    private static void noPileIsThere() {
        PileCaps o = new PileCaps();
        for (int i = 0; i <= 12; i++) {
            CHECK.due("shift one past the last of " + i, BAD, o.shift(i, 0, 0));
            CHECK.due("whole one past the last of " + i, BAD, o.whole(i, false));
            CHECK.due("about one past the last of " + i, -1000, o.about(i, 0));
            CHECK.due("drive one past the last of " + i, BAD, o.drive(i, 1, 1));
            CHECK.due("drag one past the last of " + i, BAD, o.drag(i, 0));
            o.pile(i, i, 1, 1);
            CHECK.due("about the last of " + (i + 1), i < 12 ? i : -1000, o.about(i, 0));
        }
        CHECK.due("none of these calls broke one", 12, o.count(2));
    }

    /** Terms 1: CASES 0 to 2, a number -500 to 500, x, y -20 to 20. */
    private static void load() {
        CHECK.bounds("load: CASE", 0, 2, 1, BAD, v -> new PileCaps().load(v, 5, 1, 1));
        CHECK.bounds("load: number", -500, 500, 1, BAD, v -> new PileCaps().load(1, v, 1, 1));
        CHECK.bounds("load: x", -20, 20, 1, BAD, v -> new PileCaps().load(1, 5, v, 1));
        CHECK.bounds("load: y", -20, 20, 1, BAD, v -> new PileCaps().load(1, 5, 1, v));
        CHECK.due("load: 0 is a number too", 1, new PileCaps().load(1, 0, 0, 0));
    }

    /** Promises 10 to 13: CASES 0 to 2. */
    private static void casesZeroToTwo() {
        CHECK.bounds("noLoads: CASE", 0, 2, 1, BAD, v -> site().noLoads(v));
        CHECK.bounds("shares: CASE", 0, 2, 0, BAD, v -> site().shares(v));
        CHECK.bounds("over: CASE", 0, 2, 0, BAD, v -> site().over(v));
        CHECK.bounds("end: CASE", 0, 2, 0, BAD, v -> site().end(v));
    }

    /** Terms 3: ENERGY 1 to 10000, at most 1 to 200 BLOWS for a unit. */
    private static void drive() {
        CHECK.bounds("drive: PILE", 0, 2, 11, BAD, v -> site().drive(v, 100, 3));
        CHECK.bounds("drive: ENERGY", 1, 10000, 1, BAD, v -> site().drive(0, v, 52) == BAD ? BAD : 1);
        CHECK.bounds("drive: BLOWS", 1, 200, 20, BAD, v -> site().drive(0, 10000, v));
    }

    /** Terms 3: a LOAD 0 to 100000; what is more than PULL and TIP is no BAD. */
    private static void drag() {
        CHECK.bounds("drag: PILE", 0, 2, 0, BAD, v -> site().drag(v, 300));
        CHECK.bounds("drag: LOAD", 0, 100000, 1, BAD, v -> site().drag(0, v) == BAD ? BAD : 1);
        CHECK.due("drag: the least LOAD", 0, site().drag(0, 0));
        CHECK.due("drag: the greatest LOAD", PileCaps.NONE, site().drag(0, 100000));
    }

    /** Promise 17: i below 0 is BAD; past the last number is NONE; what = 0 or 1. */
    private static void number() {
        PileCaps o = site();
        o.drive(0, 100, 3);
        CHECK.bounds("number: what", 0, 1, 1, BAD, v -> o.number(0, v) == (v == 0 ? 15 : 1) ? 1 : BAD);
        for (int i = 0; i < 4; i++) {
            CHECK.due("number " + i + " is there", 1, o.number(i, 1));
        }
        for (int i = -40; i < 0; i++) {
            CHECK.due("number(" + i + ", 0)", BAD, o.number(i, 0));
            CHECK.due("number(" + i + ", 1)", BAD, o.number(i, 1));
        }
        for (int i = 4; i < 40; i++) {
            CHECK.due("number(" + i + ", 0)", PileCaps.NONE, o.number(i, 0));
            CHECK.due("number(" + i + ", 1)", PileCaps.NONE, o.number(i, 1));
        }
        for (int wild : Check.WILD) {
            CHECK.due("number(" + wild + ", 0)", wild < 0 ? BAD : PileCaps.NONE, o.number(wild, 0));
        }
    }

    /** Promise 18: what = 0 to 3. */
    private static void count() {
        CHECK.bounds("count", 0, 3, 7, BAD, v -> {
            PileCaps o = site();
            return o.count(v) == BAD ? BAD : 7;
        });
        int[] due = {2, 3, 3, 3};
        for (int what = 0; what < due.length; what++) {
            CHECK.due("count(" + what + ")", due[what], site().count(what));
            CHECK.due("count(" + what + ") of a new one", 0, new PileCaps().count(what));
        }
    }
}
