/**
 * Piles in layered ground under a stiff cap. The words in capitals are those of the
 * document, ../shared/DOC.md; the face below follows its promises in their order.
 */
public final class PileCaps {
    public static final int BAD = -1, NO = -2, FULL = -3, NONE = -4;

    private static final int BAD_ABOUT = -1000;
    private static final int MOST_LAYERS = 6;
    private static final int MOST_THICK = 50;
    private static final int MOST_SIDE = 50;
    private static final int MOST_TIP = 1000;
    private static final int MOST_SCOUR = 20;
    private static final int MOST_SPACING = 40;
    private static final int MOST_PILES = 12;
    private static final int MOST_LENGTH = 100;
    private static final int MOST_STIFFNESS = 20;
    private static final int FARTHEST = 20;
    private static final int CASES = 3;
    private static final int MOST_LOADS = 6;
    private static final int MOST_LOAD = 500;
    private static final int MOST_WHOLE_FOR_LEAST = 10;
    private static final int MOST_ENERGY = 10000;
    private static final int MOST_BLOWS = 200;
    private static final int MOST_DRAG_LOAD = 100000;
    private static final int MOST_TOLD = 3 + MOST_PILES;
    // Euclid's way through two longs ends in fewer than 93 steps.
    private static final int MOST_STEPS = 200;

    private final Ground ground;
    private final Piles piles;
    private final Loads loads;
    private final Cap cap;
    private final Limits limits;
    private final Driving driving;
    private final Told told;
    private int spacing;

    public PileCaps() {
        ground = new Ground();
        piles = new Piles();
        loads = new Loads();
        cap = new Cap(piles);
        limits = new Limits();
        driving = new Driving();
        told = new Told();
        spacing = 0;
    }

    // ---- ground

    public int layer(int thick, int side, int tip) {
        if (!within(thick, 1, MOST_THICK) || !isSide(side) || !isTip(tip)) {
            return BAD;
        }
        if (ground.size >= MOST_LAYERS) {
            return FULL;
        }
        return ground.add(thick, side, tip);
    }

    public int change(int layer, int what, int v) {
        if (!ground.has(layer)) {
            return BAD;
        }
        if (what == 0 && isSide(v)) {
            return ground.setSide(layer, v);
        }
        if (what == 1 && isTip(v)) {
            return ground.setTip(layer, v);
        }
        return BAD;
    }

    public int rule(int what, int v) {
        if (what == 0 && within(v, 0, MOST_SCOUR)) {
            return ground.setScour(v);
        }
        if (what == 1 && within(v, 0, MOST_SPACING)) {
            int was = spacing;
            spacing = v;
            return was;
        }
        return BAD;
    }

    // ---- piles

    public int pile(int x, int y, int length, int stiffness) {
        if (!isPlace(x, y) || !within(length, 1, MOST_LENGTH) || !within(stiffness, 1, MOST_STIFFNESS)) {
            return BAD;
        }
        if (piles.size >= MOST_PILES) {
            return FULL;
        }
        return piles.add(x, y, length, stiffness);
    }

    public int shift(int pile, int x, int y) {
        if (!piles.has(pile) || !isPlace(x, y)) {
            return BAD;
        }
        piles.place(pile, x, y);
        return 0;
    }

    public int whole(int pile, boolean whole) {
        if (!piles.has(pile)) {
            return BAD;
        }
        int was = piles.isWhole(pile) ? 1 : 0;
        piles.setWhole(pile, whole);
        return was;
    }

    public int about(int pile, int what) {
        if (!piles.has(pile)) {
            return BAD_ABOUT;
        }
        switch (what) {
            case 0: return piles.x[pile];
            case 1: return piles.y[pile];
            case 2: return piles.length[pile];
            case 3: return piles.stiffness[pile];
            case 4: return piles.isWhole(pile) ? 1 : 0;
            case 5: return ground.pullOf(piles.length[pile]);
            case 6: return ground.bearingOf(piles.length[pile]);
            default: return BAD_ABOUT;
        }
    }

    // ---- loads

    public int load(int kase, int v, int x, int y) {
        if (!isCase(kase) || !within(v, -MOST_LOAD, MOST_LOAD) || !isPlace(x, y)) {
            return BAD;
        }
        if (loads.size[kase] >= MOST_LOADS) {
            return FULL;
        }
        return loads.add(kase, v, x, y);
    }

    public int noLoads(int kase) {
        if (!isCase(kase)) {
            return BAD;
        }
        return loads.clear(kase);
    }

    public int shares(int kase) {
        int fault = settle(kase);
        if (fault != 0) {
            return fault;
        }
        told.clear();
        told.add(cap.w, cap.below);
        told.add(cap.p, cap.below);
        told.add(cap.q, cap.below);
        for (int i = 0; i < piles.size; i++) {
            told.add(piles.isWhole(i) ? cap.share(i) : 0, cap.below);
        }
        return 0;
    }

    public int over(int kase) {
        int fault = settle(kase);
        if (fault != 0) {
            return fault;
        }
        limits.measure(ground, piles);
        return overloaded(piles.whole);
    }

    public int end(int kase) {
        int fault = settle(kase);
        if (fault != 0) {
            return fault;
        }
        limits.measure(ground, piles);
        int first = NONE;
        for (int i = 0; i < piles.size; i++) {
            if (piles.isWhole(i) && cap.share(i) != 0 && (first == NONE || endsBefore(i, first))) {
                first = i;
            }
        }
        if (first == NONE) {
            return NONE;
        }
        long share = cap.share(first);
        told.clear();
        told.add(limits.against(first, share) * cap.below, Math.abs(share));
        return first;
    }

    public int least() {
        int whole = piles.whole;
        if (Integer.bitCount(whole) > MOST_WHOLE_FOR_LEAST) {
            return NO;
        }
        limits.measure(ground, piles);
        limits.measureSpacing(piles, spacing);
        int sets = 1 << Integer.bitCount(whole);
        int best = NONE;
        int fewest = MOST_PILES + 1;
        int set = 0;
        for (int turn = 1; turn < sets; turn++) {
            // The next larger number that has bits of whole alone.
            set = (set - whole) & whole;
            int members = Integer.bitCount(set);
            if (members < fewest && holds(set)) {
                best = set;
                fewest = members;
            }
        }
        return best;
    }

    // ---- driving, drag

    public int drive(int pile, int e, int m) {
        if (!piles.has(pile) || !within(e, 1, MOST_ENERGY) || !within(m, 1, MOST_BLOWS)) {
            return BAD;
        }
        driving.run(ground, piles.length[pile], e, m);
        told.clear();
        told.add(driving.blows, 1);
        told.add(driving.left, 1);
        told.add(driving.most, 1);
        told.add(driving.used, 1);
        return driving.depth;
    }

    public int drag(int pile, int g) {
        if (!piles.has(pile) || !within(g, 0, MOST_DRAG_LOAD)) {
            return BAD;
        }
        int length = piles.length[pile];
        int pull = ground.pullOf(length);
        int tip = ground.tipBelow(length);
        if (g > pull + tip) {
            return NONE;
        }
        told.clear();
        if (g + pull < tip) {
            told.add(length, 1);
            told.add(g + pull, 1);
        } else {
            // Twice the SIDE above THE PLANE: the SIDE itself may be no whole number.
            int twice = pull + tip - g;
            tellDepth(length, twice);
            told.add(2 * g + twice, 2);
        }
        return 0;
    }

    public long number(int i, int what) {
        if (i < 0 || !within(what, 0, 1)) {
            return BAD;
        }
        if (i >= told.size) {
            return NONE;
        }
        return what == 0 ? told.above[i] : told.below[i];
    }

    public int count(int what) {
        switch (what) {
            case 0: return ground.size;
            case 1: return piles.size;
            case 2: return Integer.bitCount(piles.whole);
            case 3: return loads.all();
            default: return BAD;
        }
    }

    // ---- what the face is made of

    private static boolean within(int v, int from, int to) {
        return v >= from && v <= to;
    }

    private static boolean isSide(int v) {
        return within(v, 0, MOST_SIDE);
    }

    private static boolean isTip(int v) {
        return within(v, 0, MOST_TIP);
    }

    private static boolean isPlace(int x, int y) {
        return within(x, -FARTHEST, FARTHEST) && within(y, -FARTHEST, FARTHEST);
    }

    private static boolean isCase(int kase) {
        return within(kase, 0, CASES - 1);
    }

    /** Lays the LOADS of a CASE on all WHOLE PILES: 0, or what the call has to answer. */
    private int settle(int kase) {
        if (!isCase(kase)) {
            return BAD;
        }
        if (!cap.standOn(piles.whole)) {
            return NO;
        }
        cap.take(loads, kase);
        return 0;
    }

    /** Which of a set are OVER, by what the cap has taken and the limits that were measured. */
    private int overloaded(int set) {
        int bits = 0;
        for (int i = 0; i < piles.size; i++) {
            if ((set >> i & 1) != 0) {
                long share = cap.share(i);
                if (Math.abs(share) > limits.against(i, share) * cap.below) {
                    bits |= 1 << i;
                }
            }
        }
        return bits;
    }

    /** If PILE i is at its end by a lower FACTOR than PILE j; both get something. */
    private boolean endsBefore(int i, int j) {
        long ofI = cap.share(i);
        long ofJ = cap.share(j);
        return compare(limits.against(i, ofI), Math.abs(ofI), limits.against(j, ofJ), Math.abs(ofJ)) < 0;
    }

    private boolean holds(int set) {
        if (!limits.spaced(set) || !cap.standOn(set)) {
            return false;
        }
        for (int kase = 0; kase < CASES; kase++) {
            if (loads.size[kase] > 0) {
                cap.take(loads, kase);
                if (overloaded(set) != 0) {
                    return false;
                }
            }
        }
        return true;
    }

    /** Tells the least depth above which so much SIDE lies, which is told twice over. */
    private void tellDepth(int length, int twice) {
        int above = 0;
        for (int unit = 0; unit < length && twice > 0; unit++) {
            int side = ground.sideAt(unit);
            if (side > 0 && 2 * (above + side) >= twice) {
                told.add(2 * side * unit + twice - 2 * above, 2 * side);
                return;
            }
            above += side;
        }
        told.add(0, 1);
    }

    /** Of two numbers, none below 0 and not both 0. */
    private static long commonDivisor(long a, long b) {
        for (int step = 0; step < MOST_STEPS && b != 0; step++) {
            long rest = a % b;
            a = b;
            b = rest;
        }
        return a;
    }

    /**
     * Below 0, 0, above 0 as a / b is less than c / d, the same, more; a, c are 0 or above,
     * b, d above 0. Whole parts and what is left, as a * d may be too long for a long.
     */
    private static int compare(long a, long b, long c, long d) {
        for (int step = 0; step < MOST_STEPS && b > 0 && d > 0; step++) {
            int wholes = Long.compare(a / b, c / d);
            if (wholes != 0) {
                return wholes;
            }
            long restOfA = a % b;
            long restOfC = c % d;
            if (restOfA == 0 || restOfC == 0) {
                return Long.compare(restOfA, restOfC);
            }
            // restOfA / b against restOfC / d goes as d / restOfC against b / restOfA.
            a = d;
            c = b;
            b = restOfC;
            d = restOfA;
        }
        return 0;
    }

    /** The LAYERS and SCOUR. */
    private static final class Ground {
        private final int[] thick = new int[MOST_LAYERS];
        private final int[] side = new int[MOST_LAYERS];
        private final int[] tip = new int[MOST_LAYERS];
        private int size = 0;
        private int scour = 0;

        private boolean has(int i) {
            return i >= 0 && i < size;
        }

        private int add(int itsThick, int itsSide, int itsTip) {
            thick[size] = itsThick;
            side[size] = itsSide;
            tip[size] = itsTip;
            size++;
            return size - 1;
        }

        private int setSide(int i, int v) {
            int was = side[i];
            side[i] = v;
            return was;
        }

        private int setTip(int i, int v) {
            int was = tip[i];
            tip[i] = v;
            return was;
        }

        private int setScour(int v) {
            int was = scour;
            scour = v;
            return was;
        }

        /** The LAYER of a unit: the last one goes on for ever; without LAYERS -1. */
        private int layerAt(int unit) {
            int bottom = 0;
            for (int i = 0; i < size; i++) {
                bottom += thick[i];
                if (unit < bottom) {
                    return i;
                }
            }
            return size - 1;
        }

        private int sideAt(int unit) {
            int i = layerAt(unit);
            return i < 0 || unit < scour ? 0 : side[i];
        }

        /** The TIP of a PILE so long: of the LAYER of the unit just below it. */
        private int tipBelow(int length) {
            int i = layerAt(length);
            return i < 0 ? 0 : tip[i];
        }

        private int pullOf(int length) {
            int pull = 0;
            int top = 0;
            for (int i = 0; i < size; i++) {
                int bottom = i == size - 1 ? length : Math.min(length, top + thick[i]);
                pull += Math.max(0, bottom - Math.max(top, scour)) * side[i];
                top += thick[i];
            }
            return pull;
        }

        private int bearingOf(int length) {
            return pullOf(length) + tipBelow(length);
        }
    }

    /** The PILES; whole has their bits. */
    private static final class Piles {
        private final int[] x = new int[MOST_PILES];
        private final int[] y = new int[MOST_PILES];
        private final int[] length = new int[MOST_PILES];
        private final int[] stiffness = new int[MOST_PILES];
        private int whole = 0;
        private int size = 0;

        private boolean has(int i) {
            return i >= 0 && i < size;
        }

        private boolean isWhole(int i) {
            return (whole >> i & 1) != 0;
        }

        private int add(int itsX, int itsY, int itsLength, int itsStiffness) {
            int i = size;
            place(i, itsX, itsY);
            length[i] = itsLength;
            stiffness[i] = itsStiffness;
            setWhole(i, true);
            size++;
            return i;
        }

        private void place(int i, int itsX, int itsY) {
            x[i] = itsX;
            y[i] = itsY;
        }

        private void setWhole(int i, boolean is) {
            whole = is ? whole | 1 << i : whole & ~(1 << i);
        }
    }

    /** The LOADS of the CASES, as their sums: nothing asks for a single one again. */
    private static final class Loads {
        private final int[] size = new int[CASES];
        private final long[] force = new long[CASES];
        private final long[] timesX = new long[CASES];
        private final long[] timesY = new long[CASES];

        private int add(int kase, int v, int x, int y) {
            force[kase] += v;
            timesX[kase] += v * x;
            timesY[kase] += v * y;
            size[kase]++;
            return size[kase];
        }

        private int clear(int kase) {
            int were = size[kase];
            size[kase] = 0;
            force[kase] = 0;
            timesX[kase] = 0;
            timesY[kase] = 0;
            return were;
        }

        private int all() {
            int sum = 0;
            for (int kase = 0; kase < CASES; kase++) {
                sum += size[kase];
            }
            return sum;
        }
    }

    /**
     * THE CAP on a set of PILES: w, p, q and every share are told as what is above one
     * common number below. By the document's bounds all stays under 10 to the 16th.
     */
    private static final class Cap {
        private final Piles piles;
        // The cofactors of the symmetric matrix of the three sums.
        private long ww, wp, wq, pp, pq, qq;
        private long below = 1;
        private long w, p, q;

        private Cap(Piles itsPiles) {
            piles = itsPiles;
        }

        /** If a set of PILES stands; the sums' determinant is above 0 then, else 0. */
        private boolean standOn(int set) {
            long s = 0, sx = 0, sy = 0, sxx = 0, sxy = 0, syy = 0;
            for (int i = 0; i < piles.size; i++) {
                if ((set >> i & 1) != 0) {
                    int k = piles.stiffness[i];
                    int kx = k * piles.x[i];
                    int ky = k * piles.y[i];
                    s += k;
                    sx += kx;
                    sy += ky;
                    sxx += kx * piles.x[i];
                    sxy += kx * piles.y[i];
                    syy += ky * piles.y[i];
                }
            }
            ww = sxx * syy - sxy * sxy;
            wp = sy * sxy - sx * syy;
            wq = sx * sxy - sy * sxx;
            pp = s * syy - sy * sy;
            pq = sx * sy - s * sxy;
            qq = s * sxx - sx * sx;
            below = s * ww + sx * wp + sy * wq;
            return below > 0;
        }

        private void take(Loads loads, int kase) {
            long force = loads.force[kase];
            long timesX = loads.timesX[kase];
            long timesY = loads.timesY[kase];
            w = ww * force + wp * timesX + wq * timesY;
            p = wp * force + pp * timesX + pq * timesY;
            q = wq * force + pq * timesX + qq * timesY;
        }

        /** What is above in the share of a PILE of the set. */
        private long share(int i) {
            return piles.stiffness[i] * (w + p * piles.x[i] + q * piles.y[i]);
        }
    }

    /** What each PILE can bear, and which others are too near to it. */
    private static final class Limits {
        private final int[] pull = new int[MOST_PILES];
        private final int[] bearing = new int[MOST_PILES];
        private final int[] near = new int[MOST_PILES];

        private void measure(Ground ground, Piles piles) {
            for (int i = 0; i < piles.size; i++) {
                pull[i] = ground.pullOf(piles.length[i]);
                bearing[i] = ground.bearingOf(piles.length[i]);
            }
        }

        private void measureSpacing(Piles piles, int spacing) {
            for (int i = 0; i < piles.size; i++) {
                near[i] = 0;
                for (int j = 0; j < piles.size; j++) {
                    int dx = piles.x[i] - piles.x[j];
                    int dy = piles.y[i] - piles.y[j];
                    if (i != j && dx * dx + dy * dy < spacing * spacing) {
                        near[i] |= 1 << j;
                    }
                }
            }
        }

        /** What a PILE has against a share: BEARING if it is above 0, else PULL. */
        private long against(int i, long share) {
            return share > 0 ? bearing[i] : pull[i];
        }

        private boolean spaced(int set) {
            for (int i = 0; i < MOST_PILES; i++) {
                if ((set >> i & 1) != 0 && (set & near[i]) != 0) {
                    return false;
                }
            }
            return true;
        }
    }

    /** One DRIVING, with its energy book. */
    private static final class Driving {
        private int depth, blows, left, most, used;

        private void run(Ground ground, int length, int energy, int limit) {
            depth = 0;
            blows = 0;
            left = 0;
            most = 0;
            used = 0;
            boolean goesOn = true;
            for (int unit = 0; unit < length && goesOn; unit++) {
                goesOn = goThrough(ground.bearingOf(unit + 1), energy, limit);
            }
        }

        /** One unit that bears so much: false if it is REFUSED. */
        private boolean goThrough(int bears, int energy, int limit) {
            int struck = 0;
            while (struck < limit && left < bears) {
                struck++;
                left += energy;
            }
            blows += struck;
            most = Math.max(most, struck);
            if (left < bears) {
                return false;
            }
            left -= bears;
            used += bears;
            depth++;
            return true;
        }
    }

    /** The numbers that were told last, as fractions in lowest terms. */
    private static final class Told {
        private final long[] above = new long[MOST_TOLD];
        private final long[] below = new long[MOST_TOLD];
        private int size = 0;

        private void clear() {
            size = 0;
        }

        private void add(long itsAbove, long itsBelow) {
            long common = commonDivisor(Math.abs(itsAbove), itsBelow);
            if (size >= MOST_TOLD || common < 1) {
                return;
            }
            above[size] = itsAbove / common;
            below[size] = itsBelow / common;
            size++;
        }
    }
}
