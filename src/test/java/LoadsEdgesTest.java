/**
 * Promises 9 to 11 and Terms 2 at their edges, a test for each sentence that names one: six
 * LOADS a CASE, what DOES NOT STAND, fractions in lowest terms.
 */
public final class LoadsEdgesTest {
    private static final Check CHECK = new Check("LoadsEdgesTest");

    public static void main(String[] args) {
        sixLoadsOfEachCase();
        loadsAgainAfterNoLoads();
        aLoadOfNothingIsALoad();
        noLoadsOfEachCase();
        noLoadsOfAFullCase();
        noLoadsTakesWhatTheyDid();
        fewerThanThree();
        threeThatStand();
        threeInOneLine();
        twoAtOnePlace();
        allAtOnePlace();
        twelveInOneLine();
        justOffTheLine();
        brokenOnesDoNotHelp();
        itStandsWithoutLoads();
        aBrokenOneGetsNothing();
        sharesOfTwelve();
        sharesAreInLowestTerms();
        belowIsAboveZero();
        nothingIsZeroByOne();
        stiffnessIsInIt();
        theCornersOfAllBounds();
        casesAreApart();
        CHECK.end();
    }

    /** PILES 0, 1, 2 that bear so much whatever comes: a LOAD at one of them is its share alone. */
    private static PileCaps triangle() {
        PileCaps o = new PileCaps();
        o.layer(50, 50, 1000);
        o.pile(0, 0, 100, 1);
        o.pile(10, 0, 100, 1);
        o.pile(0, 10, 100, 1);
        return o;
    }

    private static PileCaps piles(int... places) {
        PileCaps o = new PileCaps();
        for (int i = 0; i + 1 < places.length; i += 2) {
            o.pile(places[i], places[i + 1], 1, 1 + i);
        }
        return o;
    }

    private static void stands(String call, int due, PileCaps o) {
        for (int kase = 0; kase < 3; kase++) {
            CHECK.due(call + ": shares(" + kase + ")", due, o.shares(kase));
            CHECK.due(call + ": over(" + kase + ")", due, o.over(kase));
            CHECK.due(call + ": end(" + kase + ")", due == 0 ? PileCaps.NONE : due, o.end(kase));
        }
    }

    /** "CASES 0 to 2 have LOADS, 6 each at most"; promise 9: "how many it has. .. FULL." */
    private static void sixLoadsOfEachCase() {
        PileCaps o = new PileCaps();
        for (int kase = 2; kase >= 0; kase--) {
            for (int i = 1; i <= 6; i++) {
                CHECK.due("load " + i + " of " + kase, i, o.load(kase, 500, 20, 20));
            }
            CHECK.due("the seventh of " + kase, PileCaps.FULL, o.load(kase, 500, 20, 20));
            CHECK.due("and again", PileCaps.FULL, o.load(kase, 0, 0, 0));
            CHECK.due("count(3)", 6 * (3 - kase), o.count(3));
        }
    }

    private static void loadsAgainAfterNoLoads() {
        PileCaps o = new PileCaps();
        for (int round = 0; round < 3; round++) {
            for (int i = 1; i <= 6; i++) {
                CHECK.due("round " + round + ", load " + i, i, o.load(1, 1, 1, 1));
            }
            CHECK.due("round " + round + ", the seventh", PileCaps.FULL, o.load(1, 1, 1, 1));
            CHECK.due("round " + round + ", noLoads(1)", 6, o.noLoads(1));
        }
    }

    private static void aLoadOfNothingIsALoad() {
        PileCaps o = triangle();
        for (int i = 1; i <= 6; i++) {
            CHECK.due("load(0, 0, 0, 0)", i, o.load(0, 0, 0, 0));
        }
        CHECK.due("six of nothing fill a CASE", PileCaps.FULL, o.load(0, 1, 0, 0));
        CHECK.due("end(0): no PILE gets anything", PileCaps.NONE, o.end(0));
    }

    /** Promise 10: "LOADS of a CASE go: how many there were." */
    private static void noLoadsOfEachCase() {
        for (int gone = 0; gone < 3; gone++) {
            PileCaps o = triangle();
            for (int kase = 0; kase < 3; kase++) {
                for (int i = 0; i <= kase; i++) {
                    o.load(kase, 10 + kase, 10, 0);
                    o.load(kase, 20 + kase, 0, 10);
                }
            }
            CHECK.due("noLoads(" + gone + ")", 2 * gone + 2, o.noLoads(gone));
            CHECK.due("count(3)", 12 - (2 * gone + 2), o.count(3));
            for (int kase = 0; kase < 3; kase++) {
                int times = kase == gone ? 0 : kase + 1;
                o.shares(kase);
                CHECK.told(o, gone + " has gone, shares of " + kase, 4, times * (10 + kase), 1);
                CHECK.told(o, gone + " has gone, shares of " + kase, 5, times * (20 + kase), 1);
            }
            CHECK.due("noLoads(" + gone + ") again", 0, o.noLoads(gone));
        }
    }

    private static void noLoadsOfAFullCase() {
        PileCaps o = new PileCaps();
        for (int i = 0; i < 6; i++) {
            o.load(2, 1, 1, 1);
        }
        CHECK.due("noLoads(2)", 6, o.noLoads(2));
        CHECK.due("count(3)", 0, o.count(3));
        CHECK.due("load after it", 1, o.load(2, 1, 1, 1));
    }

    private static void noLoadsTakesWhatTheyDid() {
        PileCaps o = triangle();
        o.load(0, 500, 20, -20);
        o.noLoads(0);
        o.load(0, 3, 0, 10);
        o.shares(0);
        CHECK.told(o, "shares after noLoads", 3, 0, 1);
        CHECK.told(o, "shares after noLoads", 4, 0, 1);
        CHECK.told(o, "shares after noLoads", 5, 3, 1);
    }

    /** "It DOES NOT STAND, if there is not just one such w, p, q (fewer than three WHOLE PILES". */
    private static void fewerThanThree() {
        stands("no PILE", PileCaps.NO, piles());
        stands("one PILE", PileCaps.NO, piles(3, 4));
        stands("two PILES", PileCaps.NO, piles(3, 4, -20, 20));
    }

    private static void threeThatStand() {
        stands("three PILES", 0, piles(3, 4, -20, 20, 20, 20));
    }

    /** ".. all in one line)." */
    private static void threeInOneLine() {
        stands("one x", PileCaps.NO, piles(7, -20, 7, 0, 7, 20));
        stands("one y", PileCaps.NO, piles(-20, 7, 3, 7, 20, 7));
        stands("aslant through 0, 0", PileCaps.NO, piles(-20, 20, 1, -1, 20, -20));
        stands("aslant elsewhere", PileCaps.NO, piles(-20, 11, -18, 12, -2, 20));
        stands("aslant, off 0, 0", PileCaps.NO, piles(-20, 11, -5, 14, 20, 19));
    }

    private static void twoAtOnePlace() {
        stands("two of three at one place", PileCaps.NO, piles(5, 5, 5, 5, -3, 8));
        stands("two of four at one place", 0, piles(5, 5, 5, 5, -3, 8, 0, 0));
    }

    private static void allAtOnePlace() {
        stands("three at 0, 0", PileCaps.NO, piles(0, 0, 0, 0, 0, 0));
        stands("four at a corner", PileCaps.NO, piles(20, -20, 20, -20, 20, -20, 20, -20));
    }

    private static void twelveInOneLine() {
        PileCaps o = new PileCaps();
        for (int i = 0; i < 12; i++) {
            o.pile(3 * i - 16, i - 7, 100, 20);
        }
        stands("twelve in one line", PileCaps.NO, o);
    }

    private static void justOffTheLine() {
        stands("nearly in one line, near", 0, piles(0, 0, 1, 0, 0, 1));
        stands("nearly in one line, far", 0, piles(-20, -20, 20, 20, 19, 20));
        stands("the flattest of all", 0, piles(-20, -20, 20, 19, 0, -1));
        PileCaps o = new PileCaps();
        for (int i = 0; i < 12; i++) {
            o.pile(i == 11 ? 20 : 3 * i - 16, i - 7, 100, 20);
        }
        stands("eleven in one line", 0, o);
    }

    /** "WHOLE PILES": a BROKEN one is none of the three, and none off the line. */
    private static void brokenOnesDoNotHelp() {
        for (int broken = 0; broken < 3; broken++) {
            PileCaps o = piles(3, 4, -20, 20, 20, 20);
            o.whole(broken, false);
            stands(broken + " of three is BROKEN", PileCaps.NO, o);
            o.whole(broken, true);
            stands(broken + " of three is WHOLE again", 0, o);
        }
        PileCaps line = piles(0, 0, 1, 1, 2, 2, 5, 6);
        stands("one is off the line", 0, line);
        line.whole(3, false);
        stands("it is BROKEN", PileCaps.NO, line);
    }

    private static void itStandsWithoutLoads() {
        PileCaps o = triangle();
        CHECK.due("shares(0)", 0, o.shares(0));
        CHECK.toldWholes(o, "shares without LOADS", 0, 0, 0, 0, 0, 0);
        CHECK.due("over(0)", 0, o.over(0));
    }

    /** Promise 11: "(BROKEN: 0)". */
    private static void aBrokenOneGetsNothing() {
        PileCaps o = triangle();
        o.pile(5, 5, 100, 20);
        o.pile(-5, 5, 100, 20);
        o.whole(3, false);
        o.whole(4, false);
        o.load(0, 30, 5, 5);
        o.shares(0);
        long[][] due = {{0, 1}, {3, 2}, {3, 2}, {0, 1}, {15, 1}, {15, 1}, {0, 1}, {0, 1}};
        for (int i = 0; i < due.length; i++) {
            CHECK.told(o, "the last two are BROKEN", i, due[i][0], due[i][1]);
        }
        CHECK.toldInAll(o, "the last two are BROKEN", due.length);
    }

    /** Promise 11: "0 to 2 w, p, q, then of each PILE by numbers": fifteen with twelve PILES. */
    private static void sharesOfTwelve() {
        PileCaps o = new PileCaps();
        for (int i = 0; i < 12; i++) {
            o.pile((i & 1) == 0 ? -10 : 10, (i & 2) == 0 ? -10 : 10, 100, 20);
        }
        o.load(2, 500, 0, 0);
        o.load(2, 500, 0, 0);
        o.load(2, 200, 20, 10);
        CHECK.due("shares(2)", 0, o.shares(2));
        long[][] due = new long[15][];
        due[0] = new long[] {5, 1};
        due[1] = new long[] {1, 6};
        due[2] = new long[] {1, 12};
        for (int i = 0; i < 12; i++) {
            // 20 times (5, 10 sixths more or less, 10 twelfths more or less).
            int thirds = 300 + ((i & 1) == 0 ? -100 : 100) + ((i & 2) == 0 ? -50 : 50);
            due[3 + i] = thirds % 3 == 0 ? new long[] {thirds / 3, 1} : new long[] {thirds, 3};
        }
        for (int i = 0; i < due.length; i++) {
            CHECK.told(o, "shares of twelve", i, due[i][0], due[i][1]);
        }
        CHECK.toldInAll(o, "shares of twelve", 15);
    }

    /** "FRACTIONS are told in lowest terms". */
    private static void sharesAreInLowestTerms() {
        PileCaps o = new PileCaps();
        o.pile(-20, -20, 1, 1);
        o.pile(20, -20, 1, 1);
        o.pile(-19, 20, 1, 1);
        o.load(0, 1, 0, 0);
        CHECK.due("shares(0)", 0, o.shares(0));
        long[][] due = {{1561, 3200}, {19, 1600}, {761, 64000}, {1, 80}, {39, 80}, {1, 2}};
        for (int i = 0; i < due.length; i++) {
            CHECK.told(o, "shares", i, due[i][0], due[i][1]);
        }
    }

    /** ".. what is below above 0." */
    private static void belowIsAboveZero() {
        PileCaps o = new PileCaps();
        o.pile(-20, -20, 1, 1);
        o.pile(20, -20, 1, 1);
        o.pile(-19, 20, 1, 1);
        o.load(0, -1, 0, 0);
        CHECK.due("shares(0)", 0, o.shares(0));
        long[][] due = {{-1561, 3200}, {-19, 1600}, {-761, 64000}, {-1, 80}, {-39, 80}, {-1, 2}};
        for (int i = 0; i < due.length; i++) {
            CHECK.told(o, "shares of an upward LOAD", i, due[i][0], due[i][1]);
        }
    }

    private static void nothingIsZeroByOne() {
        PileCaps o = triangle();
        o.load(0, 7, 10, 0);
        o.shares(0);
        CHECK.told(o, "all on PILE 1: PILE 0", 3, 0, 1);
        CHECK.told(o, "all on PILE 1: PILE 1", 4, 7, 1);
        CHECK.told(o, "all on PILE 1: PILE 2", 5, 0, 1);
        CHECK.told(o, "all on PILE 1: w", 0, 0, 1);
        CHECK.told(o, "all on PILE 1: p", 1, 7, 10);
        CHECK.told(o, "all on PILE 1: q", 2, 0, 1);
    }

    /** "Ni = STIFFNESS times (w + p xi + q yi)", STIFFNESS 1 to 20. */
    private static void stiffnessIsInIt() {
        PileCaps o = new PileCaps();
        for (int i = 0; i < 4; i++) {
            o.pile((i & 1) == 0 ? -10 : 10, (i & 2) == 0 ? -10 : 10, 1, 1);
        }
        o.pile(0, 0, 1, 20);
        o.load(0, 48, 0, 0);
        o.shares(0);
        CHECK.toldWholes(o, "STIFFNESS 1 and 20", 2, 0, 0, 2, 2, 2, 2, 40);
    }

    /** The greatest LOADS on twelve of the greatest STIFFNESS, at the farthest places. */
    private static void theCornersOfAllBounds() {
        PileCaps o = new PileCaps();
        for (int i = 0; i < 12; i++) {
            o.pile((i & 1) == 0 ? -20 : 20, (i & 2) == 0 ? -20 : 20, 100, 20);
        }
        for (int i = 0; i < 6; i++) {
            o.load(0, 500, 20, 20);
            o.load(1, -500, 20, 20);
        }
        o.shares(0);
        CHECK.told(o, "all down", 0, 25, 2);
        CHECK.told(o, "all down", 1, 5, 8);
        CHECK.told(o, "all down", 2, 5, 8);
        o.shares(1);
        CHECK.told(o, "all up", 0, -25, 2);
        for (int i = 0; i < 12; i++) {
            CHECK.told(o, "all up, PILE " + i, 3 + i, 250 - 500 * Integer.bitCount(i & 3), 1);
        }
    }

    private static void casesAreApart() {
        PileCaps o = triangle();
        o.load(0, 1, 0, 0);
        o.load(1, 2, 10, 0);
        o.load(2, 3, 0, 10);
        for (int kase = 0; kase < 3; kase++) {
            o.shares(kase);
            for (int i = 0; i < 3; i++) {
                CHECK.told(o, "shares of " + kase, 3 + i, i == kase ? kase + 1 : 0, 1);
            }
        }
    }
}
