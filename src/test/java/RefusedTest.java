import java.util.ArrayList;
import java.util.List;
import java.util.function.Supplier;
import java.util.function.ToLongFunction;

/**
 * "BAD .. NO .. FULL. Of several the first; nothing changes then": after every refused call an
 * object answers all that can be asked as one does that was not asked to refuse anything.
 */
public final class RefusedTest {
    private static final Check CHECK = new Check("RefusedTest");
    private static final int BAD = PileCaps.BAD, NO = PileCaps.NO, FULL = PileCaps.FULL, NONE = PileCaps.NONE;

    /** A call that is to be refused, and the answer that is due. */
    private record Refused(String name, long due, ToLongFunction<PileCaps> call) {
    }

    public static void main(String[] args) {
        nothingChangesInANewOne();
        nothingChangesInAFullOne();
        nothingChangesWhereItDoesNotStand();
        nothingChangesWithoutLoads();
        nothingChangesWithTooManyForLeast();
        askingChangesNothing();
        manyRefusedCallsFillNothing();
        badGoesAheadOfFull();
        badGoesAheadOfNo();
        badGoesAheadOfNone();
        noGoesAheadOfNone();
        CHECK.end();
    }

    private static PileCaps full() {
        PileCaps o = new PileCaps();
        for (int i = 0; i < 6; i++) {
            o.layer(2 + i, 3 * i, 100 * i);
        }
        for (int i = 0; i < 12; i++) {
            o.pile(i * i % 17 - 8, i * 5 % 13 - 6, 3 + 4 * i, 1 + i);
        }
        o.whole(2, false);
        o.whole(7, false);
        for (int i = 0; i < 18; i++) {
            o.load(i % 3, 20 * i - 100, i - 9, 9 - i);
        }
        o.rule(0, 3);
        o.rule(1, 2);
        o.shares(1);
        return o;
    }

    private static PileCaps twoPiles() {
        PileCaps o = new PileCaps();
        o.layer(4, 5, 6);
        o.pile(1, 2, 9, 4);
        o.pile(-3, 7, 8, 9);
        o.load(1, 70, 2, 3);
        o.drag(0, 20);
        return o;
    }

    private static PileCaps noLoads() {
        PileCaps o = twoPiles();
        o.pile(10, 3, 2, 1);
        o.noLoads(1);
        o.load(2, 9, 1, 1);
        o.load(2, -9, 1, 1);
        o.drive(1, 9, 5);
        return o;
    }

    private static PileCaps eleven() {
        PileCaps o = full();
        o.whole(2, true);
        o.end(0);
        return o;
    }

    /** Asks all that can be asked, and then takes apart what can be; fewer than 512 calls. */
    private static List<Long> all(PileCaps o) {
        List<Long> all = new ArrayList<>();
        numbers(o, all, 16);
        for (int what = 0; what < 4; what++) {
            all.add((long) o.count(what));
        }
        for (int pile = 0; pile < 12; pile++) {
            for (int what = 0; what < 7; what++) {
                all.add((long) o.about(pile, what));
            }
        }
        all.add((long) o.least());
        for (int kase = 0; kase < 3; kase++) {
            all.add((long) o.over(kase));
            all.add((long) o.end(kase));
            numbers(o, all, 1);
            all.add((long) o.shares(kase));
            numbers(o, all, 15);
        }
        for (int pile = 0; pile < 12; pile += 3) {
            all.add((long) o.drive(pile, 50, 9));
            numbers(o, all, 4);
            all.add((long) o.drag(pile, 90));
            numbers(o, all, 2);
        }
        all.add((long) o.rule(0, 0));
        all.add((long) o.rule(1, 0));
        for (int layer = 0; layer < 6; layer++) {
            all.add((long) o.change(layer, 0, 0));
            all.add((long) o.change(layer, 1, 0));
        }
        all.add((long) o.layer(1, 1, 1));
        all.add((long) o.pile(0, 0, 1, 1));
        for (int kase = 0; kase < 3; kase++) {
            all.add((long) o.load(kase, 1, 1, 1));
            all.add((long) o.noLoads(kase));
        }
        return all;
    }

    private static void numbers(PileCaps o, List<Long> all, int many) {
        for (int i = 0; i < many; i++) {
            all.add(o.number(i, 0));
            all.add(o.number(i, 1));
        }
    }

    private static void nothingChanges(String where, Supplier<PileCaps> made, List<Refused> refused) {
        List<Long> due = all(made.get());
        for (Refused r : refused) {
            PileCaps o = made.get();
            CHECK.due(where + ": " + r.name, r.due, r.call.applyAsLong(o));
            List<Long> got = all(o);
            CHECK.due(where + ": how much changed after " + r.name, 0, due.equals(got) ? 0 : 1);
        }
    }

    /** Every call with every number that is none that is told, or no such thing. */
    private static List<Refused> bad(int layers, int piles) {
        List<Refused> bad = new ArrayList<>();
        for (int v : new int[] {-1, 0, 51}) {
            bad.add(new Refused("layer: THICK " + v, BAD, o -> o.layer(v, 1, 1)));
        }
        for (int v : new int[] {-1, 51}) {
            bad.add(new Refused("layer: SIDE " + v, BAD, o -> o.layer(1, v, 1)));
            bad.add(new Refused("change: SIDE " + v, BAD, o -> o.change(0, 0, v)));
        }
        for (int v : new int[] {-1, 1001}) {
            bad.add(new Refused("layer: TIP " + v, BAD, o -> o.layer(1, 1, v)));
            bad.add(new Refused("change: TIP " + v, BAD, o -> o.change(0, 1, v)));
        }
        for (int layer : new int[] {-1, layers}) {
            bad.add(new Refused("change: LAYER " + layer + ", SIDE", BAD, o -> o.change(layer, 0, 1)));
            bad.add(new Refused("change: LAYER " + layer + ", TIP", BAD, o -> o.change(layer, 1, 1)));
        }
        for (int what : new int[] {-1, 2}) {
            bad.add(new Refused("change: what " + what, BAD, o -> o.change(0, what, 1)));
            bad.add(new Refused("rule: what " + what, BAD, o -> o.rule(what, 1)));
            bad.add(new Refused("number: what " + what, BAD, o -> o.number(0, what)));
        }
        bad.add(new Refused("number: i -1", BAD, o -> o.number(-1, 0)));
        bad.add(new Refused("rule: SCOUR -1", BAD, o -> o.rule(0, -1)));
        bad.add(new Refused("rule: SCOUR 21", BAD, o -> o.rule(0, 21)));
        bad.add(new Refused("rule: SPACING -1", BAD, o -> o.rule(1, -1)));
        bad.add(new Refused("rule: SPACING 41", BAD, o -> o.rule(1, 41)));
        bad.add(new Refused("count(-1)", BAD, o -> o.count(-1)));
        bad.add(new Refused("count(4)", BAD, o -> o.count(4)));
        addPlaces(bad);
        addPiles(bad, piles);
        addCases(bad);
        return bad;
    }

    private static void addPlaces(List<Refused> bad) {
        for (int v : new int[] {-21, 21}) {
            bad.add(new Refused("pile: x " + v, BAD, o -> o.pile(v, 1, 1, 1)));
            bad.add(new Refused("pile: y " + v, BAD, o -> o.pile(1, v, 1, 1)));
            bad.add(new Refused("shift: x " + v, BAD, o -> o.shift(0, v, 3)));
            bad.add(new Refused("shift: y " + v, BAD, o -> o.shift(0, 3, v)));
            bad.add(new Refused("load: x " + v, BAD, o -> o.load(0, 1, v, 1)));
            bad.add(new Refused("load: y " + v, BAD, o -> o.load(0, 1, 1, v)));
        }
        for (int v : new int[] {0, 101}) {
            bad.add(new Refused("pile: LENGTH " + v, BAD, o -> o.pile(1, 1, v, 1)));
        }
        for (int v : new int[] {0, 21}) {
            bad.add(new Refused("pile: STIFFNESS " + v, BAD, o -> o.pile(1, 1, 1, v)));
        }
    }

    private static void addPiles(List<Refused> bad, int piles) {
        for (int pile : new int[] {-1, piles, 32, 64}) {
            bad.add(new Refused("shift: PILE " + pile, BAD, o -> o.shift(pile, 3, 3)));
            bad.add(new Refused("whole: PILE " + pile + ", false", BAD, o -> o.whole(pile, false)));
            bad.add(new Refused("whole: PILE " + pile + ", true", BAD, o -> o.whole(pile, true)));
            bad.add(new Refused("about: PILE " + pile, -1000, o -> o.about(pile, 0)));
            bad.add(new Refused("drive: PILE " + pile, BAD, o -> o.drive(pile, 9, 9)));
            bad.add(new Refused("drag: PILE " + pile, BAD, o -> o.drag(pile, 9)));
        }
        bad.add(new Refused("about: what -1", -1000, o -> o.about(0, -1)));
        bad.add(new Refused("about: what 7", -1000, o -> o.about(0, 7)));
        for (int v : new int[] {-1, 0, 10001}) {
            bad.add(new Refused("drive: ENERGY " + v, BAD, o -> o.drive(0, v, 9)));
        }
        for (int v : new int[] {-1, 0, 201}) {
            bad.add(new Refused("drive: BLOWS " + v, BAD, o -> o.drive(0, 9, v)));
        }
        for (int v : new int[] {-1, 100001}) {
            bad.add(new Refused("drag: LOAD " + v, BAD, o -> o.drag(0, v)));
        }
    }

    private static void addCases(List<Refused> bad) {
        for (int kase : new int[] {-1, 3}) {
            bad.add(new Refused("load: CASE " + kase, BAD, o -> o.load(kase, 1, 1, 1)));
            bad.add(new Refused("noLoads: CASE " + kase, BAD, o -> o.noLoads(kase)));
            bad.add(new Refused("shares: CASE " + kase, BAD, o -> o.shares(kase)));
            bad.add(new Refused("over: CASE " + kase, BAD, o -> o.over(kase)));
            bad.add(new Refused("end: CASE " + kase, BAD, o -> o.end(kase)));
        }
        for (int v : new int[] {-501, 501}) {
            bad.add(new Refused("load: number " + v, BAD, o -> o.load(0, v, 1, 1)));
        }
    }

    private static void addDoesNotStand(List<Refused> refused) {
        for (int kase = 0; kase < 3; kase++) {
            int its = kase;
            refused.add(new Refused("shares(" + kase + ")", NO, o -> o.shares(its)));
            refused.add(new Refused("over(" + kase + ")", NO, o -> o.over(its)));
            refused.add(new Refused("end(" + kase + ")", NO, o -> o.end(its)));
        }
        refused.add(new Refused("least()", NONE, PileCaps::least));
    }

    private static void nothingChangesInANewOne() {
        List<Refused> refused = bad(0, 0);
        addDoesNotStand(refused);
        refused.add(new Refused("number(0, 0)", NONE, o -> o.number(0, 0)));
        nothingChanges("a new one", PileCaps::new, refused);
    }

    private static void nothingChangesInAFullOne() {
        List<Refused> refused = bad(6, 12);
        refused.add(new Refused("the seventh layer", FULL, o -> o.layer(1, 50, 1000)));
        refused.add(new Refused("the 13th pile", FULL, o -> o.pile(1, 1, 100, 20)));
        for (int kase = 0; kase < 3; kase++) {
            int its = kase;
            refused.add(new Refused("the seventh load of " + kase, FULL, o -> o.load(its, 500, 20, 20)));
        }
        refused.add(new Refused("number(15, 0)", NONE, o -> o.number(15, 0)));
        refused.add(new Refused("drag(11, 100000)", NONE, o -> o.drag(11, 100000)));
        nothingChanges("a full one", RefusedTest::full, refused);
    }

    private static void nothingChangesWhereItDoesNotStand() {
        List<Refused> refused = bad(1, 2);
        addDoesNotStand(refused);
        refused.add(new Refused("drag(0, 52)", NONE, o -> o.drag(0, 52)));
        nothingChanges("two PILES", RefusedTest::twoPiles, refused);
    }

    private static void nothingChangesWithoutLoads() {
        List<Refused> refused = bad(1, 3);
        for (int kase = 0; kase < 3; kase++) {
            int its = kase;
            refused.add(new Refused("end(" + kase + ")", NONE, o -> o.end(its)));
        }
        refused.add(new Refused("drag(2, 17)", NONE, o -> o.drag(2, 17)));
        nothingChanges("no LOADS", RefusedTest::noLoads, refused);
    }

    private static void nothingChangesWithTooManyForLeast() {
        List<Refused> refused = bad(6, 12);
        refused.add(new Refused("least()", NO, PileCaps::least));
        nothingChanges("eleven WHOLE ones", RefusedTest::eleven, refused);
    }

    /** Nor do calls that only ask: over, least, about, number, count. */
    private static void askingChangesNothing() {
        List<Long> due = all(full());
        PileCaps o = full();
        for (int kase = 0; kase < 3; kase++) {
            o.over(kase);
        }
        o.least();
        for (int what = 0; what < 7; what++) {
            o.about(what, what);
            o.count(what);
            o.number(what, 1);
        }
        CHECK.due("how much changed by asking", 0, due.equals(all(o)) ? 0 : 1);
    }

    private static void manyRefusedCallsFillNothing() {
        PileCaps o = new PileCaps();
        for (int i = 0; i < 100; i++) {
            o.layer(0, 1, 1);
            o.pile(0, 0, 0, 1);
            o.load(0, 501, 0, 0);
        }
        for (int i = 0; i < 6; i++) {
            CHECK.due("layer after BAD ones", i, o.layer(1, 1, 1));
            CHECK.due("load after BAD ones", i + 1, o.load(0, 1, 1, 1));
        }
        for (int i = 0; i < 12; i++) {
            CHECK.due("pile after BAD ones", i, o.pile(1, 1, 1, 1));
        }
    }

    /** "Of several the first". */
    private static void badGoesAheadOfFull() {
        PileCaps o = full();
        CHECK.due("layer: BAD and FULL", BAD, o.layer(0, 1, 1));
        CHECK.due("layer: BAD and FULL", BAD, o.layer(1, 51, 1));
        CHECK.due("layer: BAD and FULL", BAD, o.layer(1, 1, 1001));
        CHECK.due("pile: BAD and FULL", BAD, o.pile(21, 0, 1, 1));
        CHECK.due("pile: BAD and FULL", BAD, o.pile(0, -21, 1, 1));
        CHECK.due("pile: BAD and FULL", BAD, o.pile(0, 0, 101, 1));
        CHECK.due("pile: BAD and FULL", BAD, o.pile(0, 0, 1, 21));
        CHECK.due("load: BAD and FULL", BAD, o.load(0, 501, 0, 0));
        CHECK.due("load: BAD and FULL", BAD, o.load(0, 1, 21, 0));
        CHECK.due("load: BAD and FULL", BAD, o.load(0, 1, 0, -21));
        CHECK.due("load: no CASE, all are FULL", BAD, o.load(3, 1, 0, 0));
    }

    private static void badGoesAheadOfNo() {
        for (int kase : new int[] {-1, 3}) {
            CHECK.due("shares: BAD and NO", BAD, twoPiles().shares(kase));
            CHECK.due("over: BAD and NO", BAD, twoPiles().over(kase));
            CHECK.due("end: BAD and NO", BAD, twoPiles().end(kase));
        }
    }

    private static void badGoesAheadOfNone() {
        CHECK.due("end: no CASE, no LOADS", BAD, noLoads().end(3));
        CHECK.due("drag: no PILE, too much LOAD", BAD, twoPiles().drag(2, 100000));
        CHECK.due("drag: more than the most LOAD", BAD, twoPiles().drag(0, 100001));
        CHECK.due("number: no what, no number", BAD, twoPiles().number(9, 2));
        CHECK.due("number: below 0, nothing told", BAD, new PileCaps().number(-1, 0));
    }

    private static void noGoesAheadOfNone() {
        PileCaps o = noLoads();
        CHECK.due("it stands: NONE", NONE, o.end(0));
        o.whole(0, false);
        CHECK.due("end: NO and no LOADS", NO, o.end(0));
        PileCaps line = new PileCaps();
        for (int i = 0; i < 11; i++) {
            line.pile(i, i, 1, 1);
        }
        CHECK.due("least: eleven in one line", NO, line.least());
        line.whole(0, false);
        CHECK.due("least: ten in one line", NONE, line.least());
    }
}
