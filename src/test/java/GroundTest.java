/** Promises 1 to 4: a new object, layer, change, rule. */
public final class GroundTest {
    private static final Check CHECK = new Check("GroundTest");
    private static final int[] WILD = {Integer.MIN_VALUE, -1, Integer.MAX_VALUE};

    public static void main(String[] args) {
        aNewObject();
        layersAreNumberedAndFull();
        layerBounds();
        changeAnswersWhatWas();
        changeBounds();
        ruleAnswersWhatWas();
        ruleBounds();
        lastLayerGoesOn();
        scourTakesSideNotTip();
        CHECK.end();
    }

    private static void aNewObject() {
        PileCaps o = new PileCaps();
        for (int what = 0; what < 4; what++) {
            CHECK.due("new: count(" + what + ")", 0, o.count(what));
        }
        CHECK.due("new: number(0, 0)", PileCaps.NONE, o.number(0, 0));
        CHECK.due("new: about(0, 0)", -1000, o.about(0, 0));
        CHECK.due("new: change(0, 0, 0)", PileCaps.BAD, o.change(0, 0, 0));
        CHECK.due("new: least()", PileCaps.NONE, o.least());
        for (int kase = 0; kase < 3; kase++) {
            CHECK.due("new: shares(" + kase + ")", PileCaps.NO, o.shares(kase));
            CHECK.due("new: noLoads(" + kase + ")", 0, o.noLoads(kase));
        }
        CHECK.due("new: rule(0, 0), SCOUR", 0, o.rule(0, 0));
        CHECK.due("new: rule(1, 0), SPACING", 0, o.rule(1, 0));
        PileCaps other = new PileCaps();
        o.layer(1, 1, 1);
        CHECK.due("another object has no LAYERS", 0, other.count(0));
    }

    private static void layersAreNumberedAndFull() {
        PileCaps o = new PileCaps();
        for (int i = 0; i < 6; i++) {
            CHECK.due("layer " + i, i, o.layer(1 + i, i, 10 * i));
            CHECK.due("count(0)", i + 1, o.count(0));
        }
        CHECK.due("the seventh layer", PileCaps.FULL, o.layer(1, 1, 1));
        CHECK.due("BAD is ahead of FULL", PileCaps.BAD, o.layer(0, 1, 1));
        CHECK.due("count(0) when full", 6, o.count(0));
    }

    private static void layerBounds() {
        PileCaps o = new PileCaps();
        int[][] bad = {{0, 0, 0}, {51, 0, 0}, {1, -1, 0}, {1, 51, 0}, {1, 0, -1}, {1, 0, 1001}};
        for (int[] b : bad) {
            CHECK.due("layer(" + b[0] + ", " + b[1] + ", " + b[2] + ")", PileCaps.BAD, o.layer(b[0], b[1], b[2]));
        }
        for (int wild : WILD) {
            CHECK.due("layer(thick " + wild + ")", PileCaps.BAD, o.layer(wild, 0, 0));
            CHECK.due("layer(side " + wild + ")", PileCaps.BAD, o.layer(1, wild, 0));
            CHECK.due("layer(tip " + wild + ")", PileCaps.BAD, o.layer(1, 0, wild));
        }
        CHECK.due("nothing came of BAD ones", 0, o.count(0));
        CHECK.due("layer(1, 0, 0)", 0, o.layer(1, 0, 0));
        CHECK.due("layer(50, 50, 1000)", 1, o.layer(50, 50, 1000));
    }

    private static void changeAnswersWhatWas() {
        PileCaps o = new PileCaps();
        o.layer(10, 2, 50);
        o.layer(20, 5, 300);
        o.pile(0, 0, 12, 1);
        CHECK.due("change(0, 0, 3)", 2, o.change(0, 0, 3));
        CHECK.due("change(0, 0, 50)", 3, o.change(0, 0, 50));
        CHECK.due("PULL after it", 510, o.about(0, 5));
        CHECK.due("change(1, 1, 1000)", 300, o.change(1, 1, 1000));
        CHECK.due("change(1, 1, 0)", 1000, o.change(1, 1, 0));
        CHECK.due("change(1, 0, 0)", 5, o.change(1, 0, 0));
        CHECK.due("BEARING after it", 500, o.about(0, 6));
        CHECK.due("change(0, 1, 7)", 50, o.change(0, 1, 7));
        CHECK.due("BEARING goes by the LAYER below", 500, o.about(0, 6));
    }

    private static void changeBounds() {
        PileCaps o = new PileCaps();
        o.layer(10, 2, 50);
        o.pile(0, 0, 5, 1);
        int[][] bad = {{1, 0, 0}, {-1, 0, 0}, {0, 2, 0}, {0, -1, 0}, {0, 0, 51}, {0, 0, -1}, {0, 1, 1001}, {0, 1, -1},
            {6, 0, 0}, {Integer.MAX_VALUE, 0, 0}, {Integer.MIN_VALUE, 1, 0}};
        for (int[] b : bad) {
            CHECK.due("change(" + b[0] + ", " + b[1] + ", " + b[2] + ")", PileCaps.BAD, o.change(b[0], b[1], b[2]));
            CHECK.due("PULL as it was", 10, o.about(0, 5));
            CHECK.due("BEARING as it was", 60, o.about(0, 6));
        }
    }

    private static void ruleAnswersWhatWas() {
        PileCaps o = new PileCaps();
        CHECK.due("rule(0, 20)", 0, o.rule(0, 20));
        CHECK.due("rule(1, 40)", 0, o.rule(1, 40));
        CHECK.due("rule(0, 1)", 20, o.rule(0, 1));
        CHECK.due("rule(1, 2)", 40, o.rule(1, 2));
        CHECK.due("rule(0, 0)", 1, o.rule(0, 0));
        CHECK.due("rule(1, 0)", 2, o.rule(1, 0));
    }

    private static void ruleBounds() {
        PileCaps o = new PileCaps();
        o.rule(0, 7);
        o.rule(1, 8);
        int[][] bad = {{0, 21}, {0, -1}, {1, 41}, {1, -1}, {2, 0}, {-1, 0}, {Integer.MAX_VALUE, 1}, {0, Integer.MIN_VALUE}};
        for (int[] b : bad) {
            CHECK.due("rule(" + b[0] + ", " + b[1] + ")", PileCaps.BAD, o.rule(b[0], b[1]));
        }
        CHECK.due("SCOUR as it was", 7, o.rule(0, 7));
        CHECK.due("SPACING as it was", 8, o.rule(1, 8));
    }

    private static void lastLayerGoesOn() {
        PileCaps o = new PileCaps();
        o.pile(0, 0, 100, 1);
        CHECK.due("PULL without LAYERS", 0, o.about(0, 5));
        CHECK.due("BEARING without LAYERS", 0, o.about(0, 6));
        o.layer(10, 2, 50);
        CHECK.due("PULL in one LAYER", 200, o.about(0, 5));
        CHECK.due("BEARING in one LAYER", 250, o.about(0, 6));
        o.layer(20, 5, 300);
        CHECK.due("PULL in two LAYERS", 20 + 450, o.about(0, 5));
        o.layer(50, 1, 7);
        CHECK.due("PULL in three LAYERS", 20 + 100 + 70, o.about(0, 5));
        CHECK.due("BEARING in three LAYERS", 20 + 100 + 70 + 7, o.about(0, 6));
    }

    private static void scourTakesSideNotTip() {
        PileCaps o = new PileCaps();
        o.layer(3, 10, 100);
        o.layer(3, 20, 200);
        o.pile(0, 0, 2, 1);
        o.pile(0, 0, 3, 1);
        o.pile(0, 0, 9, 1);
        o.rule(0, 4);
        CHECK.due("PULL all in SCOUR", 0, o.about(0, 5));
        CHECK.due("BEARING all in SCOUR", 100, o.about(0, 6));
        CHECK.due("BEARING: the unit just below is in the next LAYER", 200, o.about(1, 6));
        CHECK.due("PULL below SCOUR", 5 * 20, o.about(2, 5));
        o.rule(0, 2);
        CHECK.due("PULL below less SCOUR", 10 + 6 * 20, o.about(2, 5));
        o.rule(0, 20);
        CHECK.due("PULL with the most SCOUR", 0, o.about(2, 5));
    }
}
