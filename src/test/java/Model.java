import java.math.BigInteger;
import java.util.ArrayList;
import java.util.List;

/**
 * The document once more, slow and by other ways than the program: unit by unit, blow by
 * blow, load by load, with fractions of any length. For RandomRunsTest alone.
 */
final class Model {
    static final int BAD = -1, NO = -2, FULL = -3, NONE = -4;

    record Frac(BigInteger above, BigInteger below) implements Comparable<Frac> {
        static final Frac ZERO = of(0);

        Frac {
            if (below.signum() < 0) {
                above = above.negate();
                below = below.negate();
            }
            BigInteger common = above.gcd(below);
            above = above.divide(common);
            below = below.divide(common);
        }

        static Frac of(long whole) {
            return new Frac(BigInteger.valueOf(whole), BigInteger.ONE);
        }

        Frac plus(Frac o) {
            return new Frac(above.multiply(o.below).add(o.above.multiply(below)), below.multiply(o.below));
        }

        Frac times(Frac o) {
            return new Frac(above.multiply(o.above), below.multiply(o.below));
        }

        Frac minus(Frac o) {
            return plus(o.times(of(-1)));
        }

        Frac by(Frac o) {
            return new Frac(above.multiply(o.below), below.multiply(o.above));
        }

        int sign() {
            return above.signum();
        }

        @Override public int compareTo(Frac o) {
            return above.multiply(o.below).compareTo(o.above.multiply(below));
        }
    }

    private final List<int[]> layers = new ArrayList<>();
    private final List<int[]> piles = new ArrayList<>();
    private final List<List<int[]>> cases = List.of(new ArrayList<>(), new ArrayList<>(), new ArrayList<>());
    private List<Frac> told = List.of();
    private int scour = 0;
    private int spacing = 0;

    private static boolean in(int v, int from, int to) {
        return from <= v && v <= to;
    }

    int layer(int thick, int side, int tip) {
        if (!in(thick, 1, 50) || !in(side, 0, 50) || !in(tip, 0, 1000)) return BAD;
        if (layers.size() == 6) return FULL;
        layers.add(new int[] {thick, side, tip});
        return layers.size() - 1;
    }

    int change(int layer, int what, int v) {
        if (!in(layer, 0, layers.size() - 1) || !in(what, 0, 1) || !in(v, 0, what == 0 ? 50 : 1000)) return BAD;
        int was = layers.get(layer)[1 + what];
        layers.get(layer)[1 + what] = v;
        return was;
    }

    int rule(int what, int v) {
        if (!in(what, 0, 1) || !in(v, 0, what == 0 ? 20 : 40)) return BAD;
        int was = what == 0 ? scour : spacing;
        if (what == 0) scour = v; else spacing = v;
        return was;
    }

    int pile(int x, int y, int length, int stiffness) {
        if (!in(x, -20, 20) || !in(y, -20, 20) || !in(length, 1, 100) || !in(stiffness, 1, 20)) return BAD;
        if (piles.size() == 12) return FULL;
        piles.add(new int[] {x, y, length, stiffness, 1});
        return piles.size() - 1;
    }

    int shift(int pile, int x, int y) {
        if (!in(pile, 0, piles.size() - 1) || !in(x, -20, 20) || !in(y, -20, 20)) return BAD;
        piles.get(pile)[0] = x;
        piles.get(pile)[1] = y;
        return 0;
    }

    int whole(int pile, boolean whole) {
        if (!in(pile, 0, piles.size() - 1)) return BAD;
        int was = piles.get(pile)[4];
        piles.get(pile)[4] = whole ? 1 : 0;
        return was;
    }

    int about(int pile, int what) {
        if (!in(pile, 0, piles.size() - 1) || !in(what, 0, 6)) return -1000;
        int[] p = piles.get(pile);
        return what < 5 ? p[what] : what == 5 ? pull(p[2]) : bearing(p[2]);
    }

    private int[] ground(int unit) {
        int bottom = 0;
        for (int[] layer : layers) {
            bottom += layer[0];
            if (unit < bottom) return layer;
        }
        return layers.isEmpty() ? new int[3] : layers.get(layers.size() - 1);
    }

    private int side(int unit) {
        return unit < scour ? 0 : ground(unit)[1];
    }

    private int pull(int length) {
        int sum = 0;
        for (int unit = 0; unit < length; unit++) sum += side(unit);
        return sum;
    }

    private int bearing(int length) {
        return pull(length) + ground(length)[2];
    }

    int load(int kase, int v, int x, int y) {
        if (!in(kase, 0, 2) || !in(v, -500, 500) || !in(x, -20, 20) || !in(y, -20, 20)) return BAD;
        if (cases.get(kase).size() == 6) return FULL;
        cases.get(kase).add(new int[] {v, x, y});
        return cases.get(kase).size();
    }

    int noLoads(int kase) {
        if (!in(kase, 0, 2)) return BAD;
        int were = cases.get(kase).size();
        cases.get(kase).clear();
        return were;
    }

    private List<Integer> wholeOnes() {
        List<Integer> all = new ArrayList<>();
        for (int i = 0; i < piles.size(); i++) if (piles.get(i)[4] == 1) all.add(i);
        return all;
    }

    /** w, p, q by Gauss; null if there is not just one such. */
    private Frac[] sink(List<Integer> set, int kase) {
        Frac[][] rows = new Frac[3][4];
        for (int r = 0; r < 3; r++) {
            for (int c = 0; c < 4; c++) rows[r][c] = Frac.ZERO;
            for (int i : set) {
                int[] p = piles.get(i);
                int[] at = {1, p[0], p[1]};
                for (int c = 0; c < 3; c++) rows[r][c] = rows[r][c].plus(Frac.of((long) p[3] * at[c] * at[r]));
            }
            for (int[] load : cases.get(kase)) {
                int[] at = {1, load[1], load[2]};
                rows[r][3] = rows[r][3].plus(Frac.of((long) load[0] * at[r]));
            }
        }
        for (int c = 0; c < 3; c++) {
            int pivot = c;
            while (pivot < 3 && rows[pivot][c].sign() == 0) pivot++;
            if (pivot == 3) return null;
            Frac[] swapped = rows[pivot];
            rows[pivot] = rows[c];
            rows[c] = swapped;
            for (int r = 0; r < 3; r++) {
                if (r == c) continue;
                Frac times = rows[r][c].by(rows[c][c]);
                for (int k = 0; k < 4; k++) rows[r][k] = rows[r][k].minus(times.times(rows[c][k]));
            }
        }
        return new Frac[] {rows[0][3].by(rows[0][0]), rows[1][3].by(rows[1][1]), rows[2][3].by(rows[2][2])};
    }

    private Frac share(Frac[] sink, int i) {
        int[] p = piles.get(i);
        return Frac.of(p[3]).times(sink[0].plus(sink[1].times(Frac.of(p[0]))).plus(sink[2].times(Frac.of(p[1]))));
    }

    int shares(int kase) {
        if (!in(kase, 0, 2)) return BAD;
        Frac[] sink = sink(wholeOnes(), kase);
        if (sink == null) return NO;
        told = new ArrayList<>(List.of(sink));
        for (int i = 0; i < piles.size(); i++) told.add(piles.get(i)[4] == 1 ? share(sink, i) : Frac.ZERO);
        return 0;
    }

    private int overOf(List<Integer> set, Frac[] sink) {
        int bits = 0;
        for (int i : set) {
            Frac share = share(sink, i);
            int length = piles.get(i)[2];
            if (share.compareTo(Frac.of(bearing(length))) > 0 || share.compareTo(Frac.of(-pull(length))) < 0) bits += 1 << i;
        }
        return bits;
    }

    int over(int kase) {
        if (!in(kase, 0, 2)) return BAD;
        Frac[] sink = sink(wholeOnes(), kase);
        return sink == null ? NO : overOf(wholeOnes(), sink);
    }

    int end(int kase) {
        if (!in(kase, 0, 2)) return BAD;
        Frac[] sink = sink(wholeOnes(), kase);
        if (sink == null) return NO;
        int first = NONE;
        Frac least = null;
        for (int i : wholeOnes()) {
            Frac share = share(sink, i);
            if (share.sign() == 0) continue;
            int length = piles.get(i)[2];
            Frac factor = Frac.of(share.sign() > 0 ? bearing(length) : -pull(length)).by(share);
            if (least == null || factor.compareTo(least) < 0) {
                least = factor;
                first = i;
            }
        }
        if (least != null) told = List.of(least);
        return first;
    }

    private boolean spaced(List<Integer> set) {
        for (int i : set) {
            for (int j : set) {
                double apart = Math.hypot(piles.get(i)[0] - piles.get(j)[0], piles.get(i)[1] - piles.get(j)[1]);
                if (i < j && apart < spacing - 1e-9) return false;
            }
        }
        return true;
    }

    private boolean holds(List<Integer> set) {
        if (!spaced(set)) return false;
        for (int kase = 0; kase < 3; kase++) {
            Frac[] sink = sink(set, kase);
            if (sink == null || overOf(set, sink) != 0) return false;
        }
        return true;
    }

    int least() {
        if (wholeOnes().size() > 10) return NO;
        for (int members = 0; members <= 10; members++) {
            for (int bits = 0; bits < 1 << piles.size(); bits++) {
                if (Integer.bitCount(bits) != members) continue;
                List<Integer> set = new ArrayList<>();
                for (int i : wholeOnes()) if ((bits & 1 << i) != 0) set.add(i);
                if (set.size() == members && holds(set)) return bits;
            }
        }
        return NONE;
    }

    int drive(int pile, int e, int m) {
        if (!in(pile, 0, piles.size() - 1) || !in(e, 1, 10000) || !in(m, 1, 200)) return BAD;
        int blows = 0, left = 0, most = 0, used = 0, depth = 0;
        for (int unit = 0; unit < piles.get(pile)[2]; unit++) {
            int need = bearing(unit + 1);
            int here = 0;
            while (left < need && here < m) {
                left += e;
                here++;
            }
            blows += here;
            if (here > most) most = here;
            if (left < need) break;
            left -= need;
            used += need;
            depth = unit + 1;
        }
        told = List.of(Frac.of(blows), Frac.of(left), Frac.of(most), Frac.of(used));
        return depth;
    }

    int drag(int pile, int g) {
        if (!in(pile, 0, piles.size() - 1) || !in(g, 0, 100000)) return BAD;
        int length = piles.get(pile)[2];
        int tip = ground(length)[2];
        if (g > bearing(length)) return NONE;
        // Down less up when the plane is at the depth of a whole unit.
        int down = g - pull(length) - tip;
        Frac depth = down == 0 ? Frac.ZERO : null;
        int hangs = 0;
        for (int unit = 0; unit < length && depth == null; unit++) {
            int next = down + 2 * side(unit);
            if (next >= 0) depth = Frac.of(unit).plus(Frac.of(-down).by(Frac.of(next - down)));
            down = next;
        }
        if (depth == null) depth = Frac.of(length);
        Frac force = Frac.of(g);
        for (int unit = 0; unit < length; unit++) {
            Frac part = depth.minus(Frac.of(unit));
            if (part.sign() > 0) force = force.plus(Frac.of(side(unit)).times(part.compareTo(Frac.of(1)) > 0 ? Frac.of(1) : part));
        }
        told = List.of(depth, force);
        return 0;
    }

    long number(int i, int what) {
        if (i < 0 || !in(what, 0, 1)) return BAD;
        if (i >= told.size()) return NONE;
        return (what == 0 ? told.get(i).above() : told.get(i).below()).longValueExact();
    }

    int count(int what) {
        switch (what) {
            case 0: return layers.size();
            case 1: return piles.size();
            case 2: return wholeOnes().size();
            case 3: return cases.get(0).size() + cases.get(1).size() + cases.get(2).size();
            default: return BAD;
        }
    }
}
