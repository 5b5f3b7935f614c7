import java.util.Random;

/**
 * Runs of 512 calls of every kind, with numbers in their bounds, at them, past them and far
 * off, against Model; after each call all that can be asked is compared as well.
 */
public final class RandomRunsTest {
    private static final int RUNS = 160;
    private static final int CALLS = 512;
    private static final Check CHECK = new Check("RandomRunsTest");

    private final Random random;
    private final PileCaps program = new PileCaps();
    private final Model model = new Model();
    private final int reach;
    private final boolean great;
    private final boolean strong;

    private RandomRunsTest(int seed) {
        random = new Random(seed);
        reach = new int[] {1, 3, 8, 20}[seed % 4];
        great = seed % 5 == 0;
        strong = seed % 3 == 0;
    }

    public static void main(String[] args) {
        for (int seed = 0; seed < RUNS; seed++) {
            new RandomRunsTest(seed).run(seed);
        }
        CHECK.end();
    }

    private void run(int seed) {
        if (seed % 7 > 0) {
            for (int i = 0; i < 3 + random.nextInt(9); i++) {
                call("pile", "run " + seed + ", at first");
            }
            call("layer", "run " + seed + ", at first");
        }
        String[] kinds = {"layer", "change", "rule", "pile", "shift", "whole", "whole", "about", "load", "load", "noLoads",
            "shares", "shares", "over", "over", "end", "end", "end", "drive", "drive", "drag", "drag", "number", "count"};
        for (int i = 0; i < CALLS; i++) {
            String kind = i % 16 == 15 ? "least" : kinds[random.nextInt(kinds.length)];
            String where = "run " + seed + ", call " + i;
            if (!call(kind, where) | !sameState(where + " " + kind)) {
                return;
            }
        }
    }

    private int from(int least, int most) {
        int sort = random.nextInt(60);
        if (sort == 0) return least - 1;
        if (sort == 1) return most + 1;
        if (sort == 2) return random.nextInt();
        if (sort == 3) return random.nextBoolean() ? Integer.MIN_VALUE : Integer.MAX_VALUE;
        if (sort < 8) return least;
        if (sort < 12) return most;
        return least + random.nextInt(most - least + 1);
    }

    private int place() {
        int v = from(-20, 20);
        if (great) return random.nextInt(3) == 0 ? v : random.nextBoolean() ? 20 : -20;
        return v < -20 || v > 20 ? v : v % (reach + 1);
    }

    private boolean call(String kind, String where) {
        int pile = from(0, Math.max(0, program.count(1) - 1));
        int kase = from(0, 2);
        switch (kind) {
            case "layer": {
                int thick = from(1, 50), side = from(0, 50), tip = from(0, 1000);
                return same(where, kind, model.layer(thick, side, tip), program.layer(thick, side, tip), thick, side, tip);
            }
            case "change": {
                int layer = from(0, Math.max(0, program.count(0) - 1)), what = from(0, 1);
                int v = what == 0 ? from(0, 50) : from(0, 1000);
                return same(where, kind, model.change(layer, what, v), program.change(layer, what, v), layer, what, v);
            }
            case "rule": {
                int what = from(0, 1);
                int v = what == 0 ? from(0, 20) : from(0, random.nextBoolean() ? reach : 40);
                return same(where, kind, model.rule(what, v), program.rule(what, v), what, v);
            }
            case "pile": {
                int x = place(), y = place(), length = strong ? 100 : from(1, 100), stiffness = great ? 20 : from(1, 20);
                return same(where, kind, model.pile(x, y, length, stiffness), program.pile(x, y, length, stiffness), x, y,
                    length, stiffness);
            }
            case "shift": {
                int x = place(), y = place();
                return same(where, kind, model.shift(pile, x, y), program.shift(pile, x, y), pile, x, y);
            }
            case "whole": {
                boolean whole = random.nextInt(3) > 0;
                return same(where, kind, model.whole(pile, whole), program.whole(pile, whole), pile, whole ? 1 : 0);
            }
            case "about": {
                int what = from(0, 6);
                return same(where, kind, model.about(pile, what), program.about(pile, what), pile, what);
            }
            case "load": {
                int v = great ? 500 : from(-500, 500), x = place(), y = place();
                return same(where, kind, model.load(kase, v, x, y), program.load(kase, v, x, y), kase, v, x, y);
            }
            default:
                return callOfFew(kind, where, pile, kase);
        }
    }

    private boolean callOfFew(String kind, String where, int pile, int kase) {
        switch (kind) {
            case "noLoads": return same(where, kind, model.noLoads(kase), program.noLoads(kase), kase);
            case "shares": return same(where, kind, model.shares(kase), program.shares(kase), kase);
            case "over": return same(where, kind, model.over(kase), program.over(kase), kase);
            case "end": return same(where, kind, model.end(kase), program.end(kase), kase);
            case "least": return same(where, kind, model.least(), program.least());
            case "drive": {
                int e = random.nextBoolean() ? from(1, 200) : from(1, 10000);
                int m = random.nextBoolean() ? from(1, 5) : from(1, 200);
                return same(where, kind, model.drive(pile, e, m), program.drive(pile, e, m), pile, e, m);
            }
            case "drag": {
                int g = random.nextInt(4) == 0 ? from(0, 100000) : from(0, Math.max(1, program.about(0, 6)));
                return same(where, kind, model.drag(pile, g), program.drag(pile, g), pile, g);
            }
            case "number": {
                int i = from(0, 15), what = from(0, 1);
                return same(where, kind, model.number(i, what), program.number(i, what), i, what);
            }
            default: {
                int what = from(0, 3);
                return same(where, kind, model.count(what), program.count(what), what);
            }
        }
    }

    private static boolean same(String where, String kind, long want, long got, int... numbers) {
        if (want == got) {
            return CHECK.due(kind, want, got);
        }
        StringBuilder call = new StringBuilder(where + ": " + kind + "(");
        for (int i = 0; i < numbers.length; i++) {
            call.append(i == 0 ? "" : ", ").append(numbers[i]);
        }
        return CHECK.due(call.append(")").toString(), want, got);
    }

    private boolean sameState(String where) {
        boolean same = true;
        for (int what = 0; what < 4; what++) {
            same &= same(where, "count", model.count(what), program.count(what), what);
        }
        for (int i = 0; i <= 15; i++) {
            same &= same(where, "number", model.number(i, 0), program.number(i, 0), i, 0);
            same &= same(where, "number", model.number(i, 1), program.number(i, 1), i, 1);
        }
        for (int pile = 0; pile <= 12; pile++) {
            for (int what = 0; what <= 7; what++) {
                same &= same(where, "about", model.about(pile, what), program.about(pile, what), pile, what);
            }
        }
        return same;
    }
}
