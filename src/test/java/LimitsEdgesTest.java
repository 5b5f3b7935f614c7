/**
 * Promises 12 to 14 and Terms 2 at their edges, a test for each sentence that names one: just at
 * BEARING or PULL, who is first at the end, which set is the least.
 */
public final class LimitsEdgesTest {
    private static final Check CHECK = new Check("LimitsEdgesTest");

    public static void main(String[] args) {
        justAtBearing();
        justAtPull();
        aboveZeroGoesByBearing();
        belowZeroGoesByPull();
        nothingIsNeverOver();
        overOfBrokenOnes();
        overOfTwelve();
        overTellsNoNumbers();
        endAboveAtAndBelowOne();
        endIsOverJustAboveIt();
        endAtZero();
        endNeverOfOneThatGetsNothing();
        endOfSeveralTheLeastPile();
        endOfBearingAndPullAtOnce();
        endOfNearlyTheSame();
        endByItsOwnBearing();
        endByItsOwnPull();
        endOfBrokenOnes();
        endOfTheLastOfTwelve();
        endOfNobody();
        endIsInLowestTerms();
        leastOfThreeAtLeast();
        leastThatStands();
        leastWithFewest();
        leastNumberOfSeveral();
        leastAsIfTheyWereAll();
        leastInEachCaseByItself();
        leastNeedsAllTen();
        leastOfWholeOnes();
        leastElevenAreTooMany();
        leastJustSpacingApart();
        leastAtTheGreatestSpacing();
        leastAtOnePlace();
        leastOfAnyTwo();
        leastOfNone();
        leastTellsNoNumbers();
        CHECK.end();
    }

    /**
     * PILES 0 at 0, 0; 1 at 10, 0; 2 at 0, 10: LOADS there are just what these get, and one at
     * 1, 0 gives a tenth to PILE 1.
     */
    private static PileCaps triangle(int pull, int tip) {
        PileCaps o = new PileCaps();
        o.layer(50, pull, tip);
        o.pile(0, 0, 1, 3);
        o.pile(10, 0, 1, 5);
        o.pile(0, 10, 1, 7);
        return o;
    }

    private static void over(PileCaps o, String call, int kase, int due) {
        CHECK.due(call + ": over(" + kase + ")", due, o.over(kase));
    }

    private static void end(PileCaps o, String call, int pile, long above, long below) {
        CHECK.due(call + ": end(0)", pile, o.end(0));
        CHECK.told(o, call, 0, above, below);
        CHECK.toldInAll(o, call, 1);
    }

    /** "OVER is a PILE in a CASE, if Ni is above its BEARING". */
    private static void justAtBearing() {
        for (int pile = 0; pile < 3; pile++) {
            PileCaps o = triangle(40, 60);
            int x = pile == 1 ? 10 : 0, y = pile == 2 ? 10 : 0;
            o.load(0, 100, x, y);
            over(o, "just at BEARING", 0, 0);
            o.load(0, 1, pile == 0 ? 9 : x / 10, y / 10);
            over(o, "a tenth above it", 0, 1 << pile);
            o.load(0, -1, x, y);
            over(o, "nine tenths below it", 0, 0);
        }
    }

    /** ".. or below less its PULL." */
    private static void justAtPull() {
        for (int pile = 0; pile < 3; pile++) {
            PileCaps o = triangle(40, 1000);
            int x = pile == 1 ? 10 : 0, y = pile == 2 ? 10 : 0;
            o.load(0, -40, x, y);
            over(o, "just at PULL", 0, 0);
            o.load(0, -1, pile == 0 ? 9 : x / 10, y / 10);
            over(o, "a tenth below less it", 0, 1 << pile);
            o.load(0, 1, x, y);
            over(o, "nine tenths above it", 0, 0);
        }
    }

    private static void aboveZeroGoesByBearing() {
        PileCaps o = triangle(0, 60);
        o.load(0, 1, 1, 0);
        over(o, "a tenth, no PULL", 0, 0);
        CHECK.due("a tenth, no PULL: end(0)", 0, o.end(0));
        CHECK.told(o, "a tenth, no PULL", 0, 200, 3);
        o.change(0, 1, 0);
        over(o, "a tenth, no BEARING", 0, 3);
        PileCaps near = new PileCaps();
        near.layer(50, 0, 1);
        near.pile(0, 0, 1, 1);
        near.pile(1, 0, 1, 1);
        near.pile(0, 1, 1, 1);
        near.load(0, 1, 1, 0);
        over(near, "1, BEARING 1, no PULL", 0, 0);
        end(near, "1, BEARING 1, no PULL", 1, 1, 1);
    }

    private static void belowZeroGoesByPull() {
        PileCaps o = triangle(0, 1000);
        o.load(0, -1, 1, 0);
        over(o, "less a tenth, no PULL", 0, 3);
        o.change(0, 0, 1);
        over(o, "less a tenth, PULL 1", 0, 0);
    }

    private static void nothingIsNeverOver() {
        PileCaps o = triangle(0, 0);
        over(o, "no LOADS, no BEARING", 0, 0);
        o.load(0, 1, 10, 0);
        over(o, "all on PILE 1, no BEARING", 0, 2);
        o.load(0, -1, 10, 0);
        over(o, "nothing in all, no BEARING", 0, 0);
    }

    private static void overOfBrokenOnes() {
        PileCaps o = triangle(0, 0);
        o.pile(10, 10, 1, 1);
        o.whole(0, false);
        o.load(0, 100, 10, 10);
        over(o, "all on PILE 3, 0 is BROKEN", 0, 8);
        o.whole(0, true);
        o.whole(3, false);
        o.load(1, -100, 10, 0);
        over(o, "all on PILE 1, 3 is BROKEN", 1, 2);
    }

    /** "as bits": those of twelve. */
    private static void overOfTwelve() {
        PileCaps o = new PileCaps();
        for (int i = 0; i < 12; i++) {
            o.pile((i & 1) == 0 ? -10 : 10, (i & 2) == 0 ? -10 : 10, 1, 20);
        }
        o.load(0, 1, 0, 0);
        o.load(1, -1, 0, 0);
        o.load(2, 100, 10, 0);
        over(o, "all twelve, down", 0, 4095);
        over(o, "all twelve, up", 1, 4095);
        o.layer(1, 0, 1000);
        over(o, "they bear enough", 0, 0);
        over(o, "they have no PULL", 1, 4095);
        o.change(0, 1, 0);
        over(o, "those at x 10 alone get something", 2, 0b101010101010);
    }

    private static void overTellsNoNumbers() {
        PileCaps o = triangle(0, 0);
        o.drive(0, 7, 7);
        o.over(0);
        CHECK.toldWholes(o, "of drive still", 0, 0, 0, 0);
    }

    /** "THE END of a CASE is the least FACTOR, 0 or above". */
    private static void endAboveAtAndBelowOne() {
        PileCaps o = triangle(0, 100);
        o.load(0, 99, 10, 0);
        o.load(0, 98, 0, 10);
        end(o, "below BEARING", 1, 100, 99);
        o.load(0, 2, 0, 10);
        end(o, "just at BEARING", 2, 1, 1);
        o.load(0, 1, 0, 10);
        end(o, "above BEARING", 2, 100, 101);
    }

    /** By THE END all LOADS may be multiplied, so what is over 1 is not OVER, what is below is. */
    private static void endIsOverJustAboveIt() {
        PileCaps o = triangle(10, 90);
        o.load(0, 100, 10, 0);
        o.load(0, -10, 0, 10);
        end(o, "both just at it", 1, 1, 1);
        over(o, "both just at it", 0, 0);
        o.load(0, -1, 0, 10);
        end(o, "PILE 2 past it", 2, 10, 11);
        over(o, "PILE 2 past it", 0, 4);
    }

    private static void endAtZero() {
        PileCaps o = triangle(0, 0);
        o.load(0, 500, 0, 10);
        end(o, "no BEARING", 2, 0, 1);
        o.noLoads(0);
        o.load(0, -1, 10, 0);
        o.change(0, 1, 1000);
        end(o, "no PULL", 1, 0, 1);
    }

    /** "a PILE with Ni 0 never is." */
    private static void endNeverOfOneThatGetsNothing() {
        PileCaps o = new PileCaps();
        o.layer(1, 0, 0);
        o.layer(1, 0, 100);
        o.pile(0, 0, 1, 1);
        o.pile(10, 0, 1, 1);
        o.pile(0, 10, 1, 1);
        o.change(1, 1, 0);
        o.load(0, 50, 0, 10);
        end(o, "PILES 0, 1 bear nothing and get nothing", 2, 0, 1);
        o.change(1, 1, 100);
        end(o, "PILE 2 bears", 2, 2, 1);
    }

    /** Promise 13: "the PILE (of several the least)". */
    private static void endOfSeveralTheLeastPile() {
        PileCaps o = triangle(0, 100);
        o.load(0, 70, 10, 0);
        o.load(0, 70, 0, 10);
        end(o, "1 and 2", 1, 10, 7);
        o.load(0, 70, 0, 0);
        end(o, "all three", 0, 10, 7);
        o.load(0, 1, 0, 10);
        end(o, "2 alone", 2, 100, 71);
        PileCaps none = triangle(0, 0);
        none.load(0, 3, 10, 0);
        none.load(0, -400, 0, 10);
        end(none, "1 and 2 at 0", 1, 0, 1);
    }

    private static void endOfBearingAndPullAtOnce() {
        PileCaps o = triangle(30, 70);
        o.load(0, -3, 10, 0);
        o.load(0, 10, 0, 10);
        end(o, "1 by PULL, 2 by BEARING", 1, 10, 1);
        o.noLoads(0);
        o.load(0, 10, 10, 0);
        o.load(0, -3, 0, 10);
        end(o, "1 by BEARING, 2 by PULL", 1, 10, 1);
        o.load(0, -1, 1, 0);
        end(o, "0 gets less 9 tenths, 1 a tenth less", 2, 10, 1);
    }

    private static void endOfNearlyTheSame() {
        PileCaps o = triangle(0, 1000);
        o.load(0, 500, 10, 0);
        o.load(0, 499, 10, 0);
        o.load(0, 500, 0, 10);
        o.load(0, 499, 0, 10);
        end(o, "the same", 1, 1000, 999);
        o.load(0, 1, 0, 1);
        end(o, "2 gets a tenth more", 2, 10000, 9991);
        o.load(0, 1, 2, 0);
        end(o, "1 gets two tenths more", 1, 1250, 1249);
    }

    /** PILE 1 is 1 long, PILE 2 is 3 long: one bears tip, the other tipBelow; PULL is side and 3 side. */
    private static PileCaps unlike(int side, int tip, int tipBelow) {
        PileCaps o = new PileCaps();
        o.layer(2, side, tip);
        o.layer(2, side, tipBelow);
        o.pile(0, 0, 1, 1);
        o.pile(1, 0, 1, 1);
        o.pile(0, 1, 3, 1);
        return o;
    }

    /** That the FACTOR told last is above by below, in whatever terms these are. */
    private static void factor(PileCaps o, long above, long below) {
        CHECK.due("the FACTOR " + above + " by " + below, o.number(0, 1) * above, o.number(0, 0) * below);
    }

    /** Each FACTOR is that of the PILE's own BEARING: all pairs of small numbers. */
    private static void endByItsOwnBearing() {
        for (int of1 = 1; of1 <= 16; of1++) {
            for (int of2 = 1; of2 <= 16; of2++) {
                for (int tip : new int[] {12, 17, 30}) {
                    PileCaps o = unlike(0, tip, 17);
                    o.load(0, of1, 1, 0);
                    o.load(0, of2, 0, 1);
                    int due = tip * of2 <= 17 * of1 ? 1 : 2;
                    CHECK.due(tip + " by " + of1 + ", 17 by " + of2 + ": end(0)", due, o.end(0));
                    factor(o, due == 1 ? tip : 17, due == 1 ? of1 : of2);
                }
            }
        }
    }

    /** .. or PULL. */
    private static void endByItsOwnPull() {
        for (int of1 = 1; of1 <= 16; of1++) {
            for (int of2 = 1; of2 <= 16; of2++) {
                PileCaps o = unlike(5, 1000, 1000);
                o.load(0, -of1, 1, 0);
                o.load(0, -of2, 0, 1);
                o.load(0, of1 + of2, 0, 0);
                int due = 5 * of2 <= 15 * of1 ? 1 : 2;
                CHECK.due("5 by " + of1 + ", 15 by " + of2 + ": end(0)", due, o.end(0));
                factor(o, due == 1 ? 5 : 15, due == 1 ? of1 : of2);
            }
        }
    }

    private static void endOfBrokenOnes() {
        PileCaps o = triangle(0, 100);
        o.pile(10, 10, 1, 1);
        o.whole(0, false);
        o.load(0, 30, 10, 0);
        o.load(0, 30, 0, 10);
        o.load(0, 10, 10, 10);
        end(o, "0 is BROKEN", 1, 10, 3);
        o.whole(0, true);
        o.whole(1, false);
        // Without it PILE 2 gets 30 less 30, PILE 3 gets 10 and 30 more.
        end(o, "1 is BROKEN", 3, 5, 2);
    }

    private static void endOfTheLastOfTwelve() {
        PileCaps o = new PileCaps();
        o.layer(50, 0, 100);
        for (int i = 0; i < 11; i++) {
            o.pile(-10, i, 1, 1);
        }
        o.pile(20, 0, 1, 20);
        o.load(0, 50, 20, 0);
        end(o, "all on PILE 11", 11, 2, 1);
    }

    /** "NONE: no PILE gets anything." */
    private static void endOfNobody() {
        PileCaps o = triangle(0, 0);
        CHECK.due("no LOADS", PileCaps.NONE, o.end(0));
        o.load(0, 0, 20, -20);
        CHECK.due("a LOAD of 0", PileCaps.NONE, o.end(0));
        o.load(0, 500, 10, 10);
        o.load(0, -500, 10, 10);
        CHECK.due("LOADS that are nothing in all", PileCaps.NONE, o.end(0));
        o.load(0, 5, 4, 4);
        o.load(0, 5, -4, -4);
        o.load(0, -10, 0, 0);
        CHECK.due("six LOADS that are nothing in all", PileCaps.NONE, o.end(0));
        o.noLoads(0);
        o.load(0, 1, 1, 0);
        o.load(0, -1, 0, 0);
        CHECK.due("a turn alone is something", 0, o.end(0));
        CHECK.told(o, "a turn alone", 0, 0, 1);
    }

    private static void endIsInLowestTerms() {
        PileCaps o = triangle(0, 120);
        o.load(0, 100, 10, 0);
        end(o, "120 by 100", 1, 6, 5);
        o.load(0, 20, 10, 0);
        end(o, "120 by 120", 1, 1, 1);
        o.load(0, -80, 10, 0);
        end(o, "120 by 40", 1, 3, 1);
        o.load(0, 5, 1, 0);
        end(o, "120 by 40 and a half", 1, 80, 27);
    }

    /** The least set has to stand: three PILES at least. */
    private static void leastOfThreeAtLeast() {
        PileCaps o = new PileCaps();
        CHECK.due("no PILE", PileCaps.NONE, o.least());
        o.pile(0, 0, 1, 1);
        CHECK.due("one PILE", PileCaps.NONE, o.least());
        o.pile(1, 0, 1, 1);
        CHECK.due("two PILES", PileCaps.NONE, o.least());
        o.pile(0, 1, 1, 1);
        CHECK.due("three PILES", 7, o.least());
        o.whole(1, false);
        CHECK.due("two of three WHOLE", PileCaps.NONE, o.least());
    }

    /** "of all sets .. that stand". */
    private static void leastThatStands() {
        PileCaps o = new PileCaps();
        for (int i = 0; i < 9; i++) {
            o.pile(i, i, 1, 1);
            CHECK.due((i + 1) + " in one line", PileCaps.NONE, o.least());
        }
        o.pile(0, 1, 1, 1);
        CHECK.due("the tenth is off the line", 0b1000000011, o.least());
        o.whole(0, false);
        CHECK.due("without the first", 0b1000000110, o.least());
    }

    /**
     * Four corners (0 to 3) hold a LOAD at each of three places, but no three of them do; so do
     * the three PILES there (4 to 6), and 0, 4, 5 with 6 in their middle. No PULL: who gets less
     * than 0 is OVER.
     */
    private static PileCaps cornersAndTriangle() {
        PileCaps o = new PileCaps();
        o.layer(1, 0, 300);
        int[][] at = {{-20, -20}, {20, -20}, {-20, 20}, {20, 20}, {10, 0}, {0, 10}, {-10, -10}};
        for (int[] place : at) {
            o.pile(place[0], place[1], 1, 1);
        }
        for (int kase = 0; kase < 3; kase++) {
            o.load(kase, 300, at[4 + kase][0], at[4 + kase][1]);
        }
        return o;
    }

    /** "that with fewest": three with greater bits go ahead of four with the least. */
    private static void leastWithFewest() {
        PileCaps o = cornersAndTriangle();
        o.whole(0, false);
        CHECK.due("4, 5, 6", 0b1110000, o.least());
        o.whole(0, true);
        o.whole(4, false);
        CHECK.due("the four corners, as no three hold", 0b1111, o.least());
    }

    /** "then that whose bits are the least number." */
    private static void leastNumberOfSeveral() {
        PileCaps o = cornersAndTriangle();
        CHECK.due("0, 4, 5 ahead of 4, 5, 6", 0b110001, o.least());
        PileCaps free = new PileCaps();
        for (int i = 0; i < 10; i++) {
            free.pile(i, i * i % 11, 1, 1);
        }
        CHECK.due("without LOADS", 0b111, free.least());
        free.whole(0, false);
        CHECK.due("without the first", 0b1110, free.least());
        free.whole(0, true);
        free.whole(2, false);
        CHECK.due("without the third", 0b1011, free.least());
    }

    /** "if they are all that there are": not by what they get of all. */
    private static void leastAsIfTheyWereAll() {
        PileCaps o = new PileCaps();
        o.layer(1, 0, 100);
        o.pile(-10, -10, 1, 1);
        o.pile(10, -10, 1, 1);
        o.pile(-10, 10, 1, 1);
        o.pile(10, 10, 1, 1);
        o.load(0, 400, 0, 0);
        CHECK.due("each of four is just at BEARING", 15, o.least());
        o.load(0, 1, 0, 0);
        CHECK.due("each of four is OVER", PileCaps.NONE, o.least());
        o.pile(0, 0, 1, 1);
        CHECK.due("five hold", 31, o.least());
    }

    /** "of which none is OVER in any CASE": in one after the other, not in all at once. */
    private static void leastInEachCaseByItself() {
        PileCaps o = triangle(0, 100);
        for (int kase = 0; kase < 3; kase++) {
            o.load(kase, 100, 10, 0);
        }
        CHECK.due("just at BEARING in each CASE", 7, o.least());
        for (int kase = 0; kase < 3; kase++) {
            o.load(kase, 1, 10, 0);
            CHECK.due("OVER in CASE " + kase, PileCaps.NONE, o.least());
            o.load(kase, -1, 10, 0);
            CHECK.due("at it again in CASE " + kase, 7, o.least());
            o.load(kase, -1, 0, 10);
            CHECK.due("below less PULL in CASE " + kase, PileCaps.NONE, o.least());
            o.load(kase, 1, 0, 10);
            CHECK.due("at 0 again in CASE " + kase, 7, o.least());
        }
    }

    /** Ten that each get a tenth, just at BEARING: all of them, and no fewer. */
    private static PileCaps ten() {
        PileCaps o = new PileCaps();
        o.layer(1, 0, 10);
        int[][] at = {{1, 0}, {0, 1}, {2, 2}, {3, -1}, {1, 3}};
        for (int[] place : at) {
            o.pile(place[0], place[1], 1, 1);
            o.pile(-place[0], -place[1], 1, 1);
        }
        o.load(0, 100, 0, 0);
        return o;
    }

    private static void leastNeedsAllTen() {
        PileCaps o = ten();
        CHECK.due("all ten", 1023, o.least());
        o.load(0, 1, 0, 0);
        CHECK.due("ten are not enough", PileCaps.NONE, o.least());
    }

    /** "of all sets of WHOLE PILES (10 at most are there)": by their own bits. */
    private static void leastOfWholeOnes() {
        PileCaps o = new PileCaps();
        o.layer(1, 0, 10);
        o.pile(7, 7, 1, 1);
        int[][] at = {{1, 0}, {0, 1}, {2, 2}, {3, -1}, {1, 3}};
        for (int i = 0; i < at.length; i++) {
            o.pile(at[i][0], at[i][1], 1, 1);
            o.pile(-at[i][0], -at[i][1], 1, 1);
            if (i == 2) {
                o.pile(8, 8, 1, 1);
            }
        }
        o.load(0, 100, 0, 0);
        CHECK.due("twelve WHOLE ones", PileCaps.NO, o.least());
        o.whole(0, false);
        CHECK.due("eleven WHOLE ones", PileCaps.NO, o.least());
        o.whole(7, false);
        CHECK.due("ten WHOLE ones of twelve", 0b111101111110, o.least());
    }

    /** Promise 14: "NO: more than 10 WHOLE PILES." */
    private static void leastElevenAreTooMany() {
        PileCaps o = ten();
        o.pile(5, 5, 1, 1);
        CHECK.due("eleven", PileCaps.NO, o.least());
        o.pile(5, 6, 1, 1);
        CHECK.due("twelve", PileCaps.NO, o.least());
        o.whole(11, false);
        CHECK.due("eleven of twelve", PileCaps.NO, o.least());
        o.whole(10, false);
        CHECK.due("ten of twelve", 1023, o.least());
        o.whole(10, true);
        o.rule(1, 40);
        CHECK.due("eleven, though none would do", PileCaps.NO, o.least());
    }

    /** "any two are SPACING .. apart at least". */
    private static void leastJustSpacingApart() {
        PileCaps o = new PileCaps();
        o.pile(-10, -4, 1, 1);
        o.pile(-5, -4, 1, 1);
        o.pile(-10, 1, 1, 1);
        o.rule(1, 5);
        CHECK.due("5 apart in x and in y", 7, o.least());
        o.rule(1, 6);
        CHECK.due("not 6", PileCaps.NONE, o.least());
        o.shift(1, -4, -4);
        CHECK.due("6 in x, 5 in y", PileCaps.NONE, o.least());
        o.shift(2, -10, 2);
        CHECK.due("6 in both", 7, o.least());
        o.rule(1, 5);
        o.shift(1, -7, 0);
        CHECK.due("3, 4 and 4, 3: 1 and 2 are too near", PileCaps.NONE, o.least());
        o.shift(2, -3, -3);
        CHECK.due("3, 4 and 4, 3 apart", 7, o.least());
        o.shift(2, -4, -3);
        CHECK.due("3, 4 and 3, 3: too near", PileCaps.NONE, o.least());
    }

    private static void leastAtTheGreatestSpacing() {
        PileCaps o = new PileCaps();
        o.pile(-20, -20, 1, 1);
        o.pile(20, -20, 1, 1);
        o.pile(-20, 20, 1, 1);
        o.rule(1, 40);
        CHECK.due("40 apart, SPACING 40", 7, o.least());
        o.shift(2, -20, 19);
        CHECK.due("39 apart, SPACING 40", PileCaps.NONE, o.least());
        o.rule(1, 39);
        CHECK.due("39 apart, SPACING 39", 7, o.least());
    }

    private static void leastAtOnePlace() {
        PileCaps o = new PileCaps();
        o.layer(1, 0, 10);
        for (int i = 0; i < 2; i++) {
            o.pile(0, 0, 1, 1);
            o.pile(12, 0, 1, 1);
            o.pile(0, 12, 1, 1);
        }
        o.load(0, 60, 4, 4);
        CHECK.due("no SPACING: two at each place", 63, o.least());
        o.rule(1, 1);
        CHECK.due("SPACING 1: one at each place is too few", PileCaps.NONE, o.least());
        o.noLoads(0);
        CHECK.due("SPACING 1: the first at each place", 7, o.least());
    }

    /** "any two": the first and the last one too. */
    private static void leastOfAnyTwo() {
        int[][] pairs = {{0, 1}, {0, 2}, {1, 2}};
        int[] places = {-20, -20, 20, -20, -20, 20};
        for (int[] pair : pairs) {
            PileCaps o = new PileCaps();
            for (int i = 0; i < 9; i++) {
                o.pile(0, 0, 1, 1);
                o.whole(i, false);
            }
            for (int i = 0; i < 3; i++) {
                o.pile(places[2 * i], places[2 * i + 1], 1, 1);
            }
            o.rule(1, 2);
            CHECK.due("9, 10, 11", 0b111 << 9, o.least());
            o.shift(9 + pair[0], 3, 3);
            o.shift(9 + pair[1], 4, 4);
            CHECK.due("two of them near", PileCaps.NONE, o.least());
            o.shift(9 + pair[1], 5, 3);
            CHECK.due("two of them just apart", 0b111 << 9, o.least());
        }
        PileCaps o = new PileCaps();
        int[][] at = {{0, 0}, {1, 0}, {-1, 0}, {0, 1}, {0, -1}, {20, 20}, {20, -20}};
        for (int[] place : at) {
            o.pile(place[0], place[1], 1, 1);
        }
        o.rule(1, 2);
        CHECK.due("0 is near to four others", 0b100001 | 1 << 6, leastWithout(o, 1, 2, 3, 4));
        CHECK.due("1 and 2 are just apart", 0b100110, leastWithout(o, 0, 3, 4));
        CHECK.due("any of them", 0b100110, o.least());
    }

    private static int leastWithout(PileCaps o, int... broken) {
        for (int pile : broken) {
            o.whole(pile, false);
        }
        int set = o.least();
        for (int pile : broken) {
            o.whole(pile, true);
        }
        return set;
    }

    /** Promise 14: "NONE". */
    private static void leastOfNone() {
        PileCaps over = triangle(0, 0);
        over.load(2, 1, 1, 1);
        CHECK.due("all are OVER", PileCaps.NONE, over.least());
        PileCaps near = triangle(0, 0);
        near.rule(1, 11);
        CHECK.due("all are too near", PileCaps.NONE, near.least());
        PileCaps line = triangle(0, 0);
        line.shift(2, 20, 0);
        CHECK.due("all in one line", PileCaps.NONE, line.least());
        PileCaps none = triangle(0, 0);
        none.whole(0, false);
        CHECK.due("too few", PileCaps.NONE, none.least());
    }

    private static void leastTellsNoNumbers() {
        PileCaps o = triangle(0, 100);
        o.load(0, 50, 10, 0);
        o.end(0);
        CHECK.due("least()", 7, o.least());
        CHECK.toldWholes(o, "of end still", 2);
    }
}
