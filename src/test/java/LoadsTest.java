/** Promises 9 to 14: load, noLoads, shares, over, end, least. */
public final class LoadsTest {
    private static final Check CHECK = new Check("LoadsTest");

    public static void main(String[] args) {
        loadsAreCountedAndFull();
        loadBounds();
        noLoadsTakesOneCaseAway();
        sharesOfFour();
        sharesSkipBroken();
        whatDoesNotStand();
        sharesAreASnapshot();
        overIsStrict();
        overByPull();
        endOfACase();
        endOfSeveralTheLeast();
        endAtNoBearing();
        endWithoutShares();
        endOfLongNumbers();
        leastOfAll();
        leastLooksAtEveryCase();
        leastKeepsSpacing();
        leastOfTenAtMost();
        badCases();
        CHECK.end();
    }

    /** Four corners of a square, LENGTH 20, PULL 70, BEARING 370. */
    private static PileCaps square() {
        PileCaps o = new PileCaps();
        o.layer(10, 2, 50);
        o.layer(20, 5, 300);
        o.pile(-10, -10, 20, 5);
        o.pile(10, -10, 20, 5);
        o.pile(-10, 10, 20, 5);
        o.pile(10, 10, 20, 5);
        return o;
    }

    private static void loadsAreCountedAndFull() {
        PileCaps o = new PileCaps();
        for (int i = 1; i <= 6; i++) {
            CHECK.due("load " + i + " of case 1", i, o.load(1, i, 0, 0));
            CHECK.due("count(3)", i, o.count(3));
        }
        CHECK.due("the seventh load", PileCaps.FULL, o.load(1, 1, 0, 0));
        CHECK.due("BAD is ahead of FULL", PileCaps.BAD, o.load(1, 501, 0, 0));
        CHECK.due("another case is not full", 1, o.load(2, 1, 0, 0));
        CHECK.due("count(3)", 7, o.count(3));
    }

    private static void loadBounds() {
        PileCaps o = new PileCaps();
        int[][] bad = {{-1, 0, 0, 0}, {3, 0, 0, 0}, {0, 501, 0, 0}, {0, -501, 0, 0}, {0, 0, 21, 0}, {0, 0, -21, 0},
            {0, 0, 0, 21}, {0, 0, 0, -21}, {Integer.MAX_VALUE, 0, 0, 0}, {Integer.MIN_VALUE, 0, 0, 0},
            {0, Integer.MIN_VALUE, 0, 0}, {0, 0, Integer.MIN_VALUE, 0}, {0, 0, 0, Integer.MAX_VALUE}};
        for (int[] b : bad) {
            CHECK.due("load(" + b[0] + ", " + b[1] + ", " + b[2] + ", " + b[3] + ")", PileCaps.BAD,
                o.load(b[0], b[1], b[2], b[3]));
        }
        CHECK.due("nothing came of BAD ones", 0, o.count(3));
        CHECK.due("load(0, 500, 20, -20)", 1, o.load(0, 500, 20, -20));
        CHECK.due("load(0, -500, -20, 20)", 2, o.load(0, -500, -20, 20));
        CHECK.due("load(2, 0, 0, 0)", 1, o.load(2, 0, 0, 0));
    }

    private static void noLoadsTakesOneCaseAway() {
        PileCaps o = square();
        o.load(0, 400, 10, 3);
        o.load(0, 4, -7, 3);
        o.load(1, 100, 0, 0);
        CHECK.due("noLoads(0)", 2, o.noLoads(0));
        CHECK.due("noLoads(0) again", 0, o.noLoads(0));
        CHECK.due("count(3)", 1, o.count(3));
        CHECK.due("shares(0)", 0, o.shares(0));
        for (int i = 0; i < 7; i++) {
            CHECK.told(o, "shares without loads", i, 0, 1);
        }
        CHECK.due("shares(1)", 0, o.shares(1));
        CHECK.told(o, "shares of the other case", 0, 5, 1);
        CHECK.due("load again", 1, o.load(0, 400, 0, 0));
        o.shares(0);
        CHECK.told(o, "shares after it", 0, 20, 1);
    }

    private static void sharesOfFour() {
        PileCaps o = square();
        o.load(0, 400, 0, 0);
        o.load(0, 100, 10, 0);
        CHECK.due("shares(0)", 0, o.shares(0));
        long[][] due = {{25, 1}, {1, 2}, {0, 1}, {100, 1}, {150, 1}, {100, 1}, {150, 1}};
        for (int i = 0; i < due.length; i++) {
            CHECK.told(o, "shares", i, due[i][0], due[i][1]);
        }
        CHECK.toldInAll(o, "shares", 7);
        o.load(0, -30, 1, 7);
        CHECK.due("shares(0) with an upward load", 0, o.shares(0));
        long[][] also = {{47, 2}, {97, 200}, {-21, 200}, {197, 2}, {147, 1}, {88, 1}, {273, 2}};
        for (int i = 0; i < also.length; i++) {
            CHECK.told(o, "shares with an upward load", i, also[i][0], also[i][1]);
        }
    }

    private static void sharesSkipBroken() {
        PileCaps o = square();
        o.load(0, 400, 0, 0);
        o.load(0, 100, 10, 0);
        o.whole(3, false);
        CHECK.due("shares(0)", 0, o.shares(0));
        long[] due = {-50, 300, 250, 0};
        for (int i = 0; i < due.length; i++) {
            CHECK.told(o, "shares with one BROKEN", 3 + i, due[i], 1);
        }
        CHECK.toldInAll(o, "shares with one BROKEN", 7);
    }

    private static void whatDoesNotStand() {
        PileCaps o = new PileCaps();
        o.pile(0, 0, 1, 1);
        o.pile(5, 5, 1, 1);
        CHECK.due("two piles", PileCaps.NO, o.shares(0));
        o.pile(-3, -3, 1, 20);
        o.pile(-3, -3, 1, 7);
        CHECK.due("four in one line: shares", PileCaps.NO, o.shares(0));
        CHECK.due("four in one line: over", PileCaps.NO, o.over(0));
        CHECK.due("four in one line: end", PileCaps.NO, o.end(0));
        CHECK.due("four in one line: least", PileCaps.NONE, o.least());
        o.pile(20, 19, 1, 1);
        CHECK.due("one off the line", 0, o.shares(0));
        o.whole(4, false);
        CHECK.due("but BROKEN", PileCaps.NO, o.shares(0));
        CHECK.toldInAll(o, "told as before", 8);
        o.shift(0, 0, 1);
        CHECK.due("shifted off the line", 0, o.shares(0));
    }

    private static void sharesAreASnapshot() {
        PileCaps o = square();
        o.load(0, 400, 0, 0);
        o.shares(0);
        o.pile(0, 0, 20, 20);
        o.load(0, 7, 3, 3);
        o.whole(0, false);
        o.over(0);
        o.least();
        CHECK.due("shares of no case", PileCaps.BAD, o.shares(3));
        CHECK.told(o, "what was told stays", 0, 20, 1);
        CHECK.told(o, "what was told stays", 3, 100, 1);
        CHECK.toldInAll(o, "what was told stays", 7);
    }

    private static void overIsStrict() {
        PileCaps o = new PileCaps();
        o.layer(50, 0, 100);
        o.pile(0, 0, 10, 1);
        o.pile(10, 0, 10, 1);
        o.pile(0, 10, 10, 1);
        o.load(0, 100, 10, 0);
        o.load(0, 100, 0, 10);
        CHECK.due("just at BEARING", 0, o.over(0));
        o.load(0, 1, 0, 10);
        CHECK.due("above BEARING", 4, o.over(0));
        o.load(1, 101, 0, 0);
        o.load(1, 101, 0, 10);
        CHECK.due("two of them", 5, o.over(1));
        CHECK.due("no loads", 0, o.over(2));
        o.change(0, 1, 0);
        CHECK.due("above 0 without any BEARING", 6, o.over(0));
    }

    private static void overByPull() {
        PileCaps o = new PileCaps();
        o.layer(50, 3, 1000);
        o.pile(0, 0, 10, 1);
        o.pile(10, 0, 10, 1);
        o.pile(0, 10, 10, 1);
        o.pile(0, 0, 10, 1);
        o.whole(3, false);
        o.load(0, -30, 10, 0);
        CHECK.due("just at PULL", 0, o.over(0));
        o.load(0, -1, 10, 0);
        CHECK.due("below less PULL", 2, o.over(0));
        o.rule(0, 1);
        o.load(1, -30, 0, 10);
        CHECK.due("SCOUR took PULL", 4, o.over(1));
    }

    private static void endOfACase() {
        PileCaps o = square();
        o.load(0, 400, 0, 0);
        o.load(0, 100, 10, 0);
        CHECK.due("end(0)", 1, o.end(0));
        CHECK.told(o, "end", 0, 37, 15);
        CHECK.toldInAll(o, "end", 1);
        o.whole(3, false);
        CHECK.due("end(0) with one BROKEN", 1, o.end(0));
        CHECK.told(o, "end with one BROKEN", 0, 37, 30);
        o.change(1, 0, 0);
        CHECK.due("end(0) by PULL", 0, o.end(0));
        CHECK.told(o, "end by PULL", 0, 2, 5);
        CHECK.due("end(0) below 1 goes with over(0)", 1, o.over(0) & 1);
    }

    private static void endOfSeveralTheLeast() {
        PileCaps o = square();
        o.load(0, 400, 0, 0);
        CHECK.due("all at once", 0, o.end(0));
        CHECK.told(o, "all at once", 0, 37, 10);
        o.whole(0, false);
        o.load(1, 40, 10, 0);
        CHECK.due("two at once, 0 is BROKEN", 1, o.end(1));
    }

    private static void endAtNoBearing() {
        PileCaps o = new PileCaps();
        o.pile(0, 0, 10, 1);
        o.pile(10, 0, 10, 1);
        o.pile(0, 10, 10, 1);
        o.load(0, 5, 10, 0);
        CHECK.due("a PILE with 0 never is at its end", 1, o.end(0));
        CHECK.told(o, "FACTOR without BEARING", 0, 0, 1);
    }

    private static void endWithoutShares() {
        PileCaps o = square();
        o.drive(0, 100, 100);
        long blows = o.number(0, 0);
        CHECK.due("no loads", PileCaps.NONE, o.end(0));
        o.load(0, 5, 1, 1);
        o.load(0, -5, 1, 1);
        CHECK.due("loads that are nothing together", PileCaps.NONE, o.end(0));
        CHECK.told(o, "told as before", 0, blows, 1);
        CHECK.toldInAll(o, "told as before", 4);
        o.whole(0, false);
        o.whole(1, false);
        CHECK.due("NO is ahead of NONE", PileCaps.NO, o.end(0));
    }

    /** Here the one number times the other's BEARING is longer than a long. */
    private static void endOfLongNumbers() {
        PileCaps o = new PileCaps();
        o.layer(50, 50, 1000);
        for (int i = 0; i < 11; i++) {
            o.pile(i < 5 ? 20 : -20, -20, 100, 20);
        }
        o.pile(0, 20, 100, 20);
        for (int i = 0; i < 6; i++) {
            o.load(0, 500, 0, 20);
        }
        CHECK.due("all on the last one", 11, o.end(0));
        CHECK.told(o, "all on the last one", 0, 2, 1);
        o.noLoads(0);
        for (int i = 0; i < 6; i++) {
            o.load(0, 500, i < 5 ? 1 : 0, 20);
        }
        CHECK.due("near it", 11, o.end(0));
        CHECK.told(o, "near it", 0, 2, 1);
    }

    private static void leastOfAll() {
        PileCaps o = square();
        CHECK.due("no loads: any three that stand", 7, o.least());
        o.load(0, 400, 0, 0);
        CHECK.due("three hold (200, 200, 0)", 7, o.least());
        o.load(0, 500, 0, 0);
        CHECK.due("only four hold", 15, o.least());
        o.load(0, 500, 0, 0);
        o.load(0, 100, 0, 0);
        CHECK.due("none hold", PileCaps.NONE, o.least());
        o.noLoads(0);
        o.load(0, 300, 10, 10);
        CHECK.due("without 3, pile 0 hangs by 300", 11, o.least());
        o.whole(0, false);
        CHECK.due("sets of WHOLE ones alone", 14, o.least());
    }

    private static void leastLooksAtEveryCase() {
        for (int kase = 0; kase < 3; kase++) {
            PileCaps o = square();
            o.load(kase, 300, 10, 10);
            CHECK.due("case " + kase, 11, o.least());
            o.load((kase + 1) % 3, 300, -10, 10);
            CHECK.due("and the next one", 13, o.least());
            o.load((kase + 2) % 3, 300, 10, -10);
            CHECK.due("and the third one", 14, o.least());
            o.noLoads((kase + 2) % 3);
            o.load((kase + 2) % 3, -281, 0, 0);
            CHECK.due("and the third one, upward", PileCaps.NONE, o.least());
        }
    }

    private static void leastKeepsSpacing() {
        PileCaps o = new PileCaps();
        o.pile(0, 0, 1, 1);
        o.pile(3, 4, 1, 1);
        o.pile(6, 0, 1, 1);
        o.rule(1, 5);
        CHECK.due("just SPACING apart", 7, o.least());
        o.rule(1, 6);
        CHECK.due("too near", PileCaps.NONE, o.least());
        o.pile(3, 20, 1, 1);
        CHECK.due("the near one is left out", 13, o.least());
        o.pile(6, 0, 1, 1);
        CHECK.due("the first of two at one place", 13, o.least());
        o.whole(2, false);
        CHECK.due("a BROKEN one is no neighbour", 25, o.least());
        o.whole(2, true);
        o.rule(1, 0);
        CHECK.due("no SPACING", 7, o.least());
    }

    private static void leastOfTenAtMost() {
        PileCaps o = new PileCaps();
        o.layer(1, 0, 300);
        for (int i = 0; i < 10; i++) {
            o.pile(i, i * i % 7, 5, 1);
        }
        o.load(0, 500, 4, 2);
        CHECK.due("ten: some set", 1, o.least() > 0 ? 1 : 0);
        o.pile(10, 3, 5, 1);
        CHECK.due("eleven", PileCaps.NO, o.least());
        o.whole(5, false);
        o.pile(11, 3, 5, 1);
        CHECK.due("eleven WHOLE of twelve", PileCaps.NO, o.least());
        o.whole(6, false);
        CHECK.due("ten WHOLE of twelve", 1, o.least() > 0 ? 1 : 0);
        o.change(0, 1, 0);
        CHECK.due("none holds", PileCaps.NONE, o.least());
        o.whole(6, true);
        CHECK.due("NO, though none would hold", PileCaps.NO, o.least());
        for (int i = 0; i < 9; i++) {
            o.whole(i, false);
        }
        o.noLoads(0);
        CHECK.due("the last three", 7 << 9, o.least());
    }

    private static void badCases() {
        PileCaps o = square();
        o.load(0, 400, 0, 0);
        o.end(0);
        for (int bad : new int[] {-1, 3, Integer.MIN_VALUE, Integer.MAX_VALUE}) {
            CHECK.due("noLoads(" + bad + ")", PileCaps.BAD, o.noLoads(bad));
            CHECK.due("shares(" + bad + ")", PileCaps.BAD, o.shares(bad));
            CHECK.due("over(" + bad + ")", PileCaps.BAD, o.over(bad));
            CHECK.due("end(" + bad + ")", PileCaps.BAD, o.end(bad));
        }
        CHECK.due("count(3)", 1, o.count(3));
        CHECK.told(o, "told as before", 0, 37, 10);
        CHECK.toldInAll(o, "told as before", 1);
        CHECK.due("BAD is ahead of NO", PileCaps.BAD, new PileCaps().shares(3));
        CHECK.due("BAD is ahead of NO", PileCaps.BAD, new PileCaps().over(-1));
        CHECK.due("BAD is ahead of NO", PileCaps.BAD, new PileCaps().end(3));
    }
}
