/** Bounds of what is done ('==== 2.'), promises 8 to 16: on them, one below, one above. */
public final class ActBoundsTest {
    private static final String ONE = "window 7 3 3 9;";
    private static final String TWO = "window 7 3 3 9;window 5 1 1 9;";
    private static final int CLEAN = 1;
    private static final int RUN = 2;
    private static final int LOST = 3;
    private static final int KEPT = 4;
    private static final int NOT = 5;

    public static void main(String[] args) {
        Due.promises(ActBoundsTest.class);
    }

    /** A train that stands so long, at WINDOW 0, so many SECONDS later. */
    private static WindowSale standing(String text, int stands, int seed, int second) {
        WindowSale x = Due.at(text);
        x.train(stands, seed);
        x.begin(0);
        if (second > 0) {
            x.waits(second);
        }
        return x;
    }

    /** Promise 8: "NONE for another what": -1, 0, 10, 11. */
    static void promise08WhatIsNow() {
        WindowSale x = Due.at(ONE);
        Due.is("now(0)", x.now(0), 0);
        Due.is("now(10)", x.now(10), 0);
        for (int what : new int[] {-1, 11, 12, -2, Integer.MIN_VALUE, Integer.MAX_VALUE}) {
            Due.is("now(" + what + ")", x.now(what), -1);
        }
        x.train(9, 0);
        Due.is("now(11) with a train", x.now(11), -1);
    }

    /** Promise 8: "1 the SECOND (NONE: none has come)": 0 with the first, and it stays when it has moved. */
    static void promise08SecondIsNoneAheadOfAnyTrain() {
        WindowSale x = Due.at(ONE);
        Due.is("ahead of any", x.now(1), -1);
        x.train(61, 0);
        Due.is("one that can't come", x.now(1), -1);
        x.train(2, 0);
        Due.is("with the first", x.now(1), 0);
        x.begin(0);
        x.waits(2);
        Due.is("moved at", x.now(1), 2);
        x.train(3, 0);
        Due.is("with the next", x.now(1), 0);
    }

    /** Promise 8: "2 the WINDOW where he is (NONE: not begun)": with the next train not begun again. */
    static void promise08WhereHeIs() {
        WindowSale x = Due.at(TWO);
        Due.is("ahead of any train", x.now(2), -1);
        x.train(2, 0);
        Due.is("not begun", x.now(2), -1);
        x.begin(1);
        Due.is("begun", x.now(2), 1);
        x.waits(2);
        x.train(2, 0);
        Due.is("not begun with the next", x.now(2), -1);
    }

    /** Promise 8: "3 fruits left (0 ahead of any train)": a full BASKET with each train. */
    static void promise08FruitsLeft() {
        for (int basket : new int[] {0, 1, 24}) {
            WindowSale x = Due.at(ONE + "basket " + basket + ";");
            Due.is("ahead of any train", x.now(3), 0);
            x.train(3, 0);
            Due.is("full", x.now(3), basket);
            x.begin(0);
            x.sell(0);
            Due.is("one less", x.now(3), Math.max(0, basket - 1));
            x.waits(60);
            x.train(0, 0);
            Due.is("full again", x.now(3), basket);
        }
    }

    /** Promise 8: "6 sales that were CLEAN, 7 RUN, 8 LOST, 9 KEPT, 10 NOT so far": each in its place, over trains. */
    static void promise08SalesSoFar() {
        WindowSale x = Due.at(ONE + "honest 6;shy 6;");
        int early = Due.seedOf(12, 5);
        int late = Due.seedOf(12, 6);
        int[] seeds = {early, late, late, late, early, early};
        int[] ways = {0, 0, 1, 1, 0, 1};
        int[] stays = {2, 2, 2, 3, 3, 3};
        // RUN, LOST, KEPT, CLEAN, CLEAN, NOT
        int[][] due = {{0, 1, 0, 0, 0}, {0, 1, 1, 0, 0}, {0, 1, 1, 1, 0}, {1, 1, 1, 1, 0}, {2, 1, 1, 1, 0}, {2, 1, 1, 1, 1}};
        for (int k = 0; k < seeds.length; k++) {
            x.train(stays[k], seeds[k]);
            x.begin(0);
            x.sell(ways[k]);
            for (int what = 6; what <= 10; what++) {
                Due.is("sale " + k + ": now(" + what + ")", x.now(what), due[k][what - 6]);
            }
            Due.is("trains", x.now(5), k + 1);
        }
        Due.is("pence of RUN, KEPT, CLEAN, CLEAN", x.now(4), 28);
    }

    /** Promise 9: "S (0 to 60)", "NONE: no such S": -1, 0, 60, 61. */
    static void promise09StandsOf0To60() {
        WindowSale x = Due.at(ONE);
        for (int stands : new int[] {-1, 61, Integer.MIN_VALUE, Integer.MAX_VALUE}) {
            Due.is("train(" + stands + ")", x.train(stands, 0), -1);
        }
        Due.is("none came", x.now(5), 0);
        Due.is("train(0)", x.train(0, 0), 0);
        Due.is("train(60)", x.train(60, 0), 0);
        Due.is("two came", x.now(5), 2);
        Due.is("train(61) while one stands", x.train(61, 0), -1);
        Due.is("train(-1) while one stands", x.train(-1, 0), -1);
    }

    /** Promise 9, '2.': "it moves at SECOND S": it stands there at S - 1, not at S; one of 0 SECONDS never. */
    static void promise09MovesAtS() {
        for (int stands = 1; stands <= 60; stands += 59) {
            WindowSale x = Due.at(ONE);
            x.train(stands, 0);
            x.begin(0);
            Due.is("at 0", x.now(0), 1);
            if (stands > 1) {
                x.waits(stands - 1);
            }
            Due.is("at S - 1", x.now(0), 1);
            x.waits(1);
            Due.is("at S", x.now(0), 0);
            Due.is("SECOND", x.now(1), stands);
        }
        WindowSale y = Due.at(ONE);
        y.train(0, 0);
        Due.is("of 0 SECONDS", y.now(0), 0);
        Due.is("SECOND 0", y.now(1), 0);
        Due.is("it came", y.now(5), 1);
    }

    /** Promise 9, '2.': "1 one stands there yet": at S - 1 yes, at S no. */
    static void promise09OneStandsThereYet() {
        WindowSale x = standing(ONE, 5, 0, 4);
        Due.is("at S - 1", x.train(5, 0), 1);
        Due.is("nothing changed", x.now(1), 4);
        Due.is("trains", x.now(5), 1);
        x.waits(1);
        Due.is("at S", x.train(5, 0), 0);
        Due.is("trains", x.now(5), 2);
        Due.is("not begun, it stands", x.train(5, 0), 1);
    }

    /** Promise 9, '2.': the seed wraps around as an int does, of any sign. */
    static void promise09AnySeed() {
        WindowSale x = Due.at("window 7 1 3 9;shy 6;");
        for (int seed : new int[] {0, 1, -1, Integer.MAX_VALUE, Integer.MIN_VALUE, 12345, -1103515245}) {
            Due.is("train by " + seed, x.train(3, seed), 0);
            x.begin(0);
            int step = seed;
            for (int k = 0; k < 3; k++) {
                step = (int) ((long) step * 1103515245L + 12345L);
                int draw = (int) (((step & 0xffffffffL) >> 8) % 12);
                x.sell(1);
                Due.is("draw " + k + " by " + seed, x.latest(), draw >= 6 ? CLEAN : NOT);
            }
        }
    }

    /** Promise 10: "NONE: no such one": -1, 0, 9, 10 of ten. */
    static void promise10WindowsFrom0() {
        WindowSale x = Due.at("window 1 1 1 1;".repeat(10));
        for (int w : new int[] {-1, 10, Integer.MIN_VALUE, Integer.MAX_VALUE}) {
            Due.is("begin(" + w + ") without a train", x.begin(w), -1);
        }
        x.train(1, 0);
        Due.is("begin(10)", x.begin(10), -1);
        Due.is("begin(-1)", x.begin(-1), -1);
        Due.is("begin(9)", x.begin(9), 0);
        Due.is("begin(10), begun", x.begin(10), -1);
        x.waits(1);
        x.train(1, 0);
        Due.is("begin(0)", x.begin(0), 0);
        Due.is("no WINDOWS", new WindowSale().begin(0), -1);
    }

    /** Promise 10, '2.': "1 no train stands there": ahead of any, at S; not at S - 1. */
    static void promise10NoTrainStandsThere() {
        WindowSale x = Due.at(ONE);
        Due.is("ahead of any", x.begin(0), 1);
        x.train(0, 0);
        Due.is("it stood 0 SECONDS", x.begin(0), 1);
        x.train(1, 0);
        Due.is("at S - 1", x.begin(0), 0);
        x.waits(1);
        Due.is("at S, though begun", x.begin(0), 1);
    }

    /** Promise 10, '2.': "2 he has begun with it": once with each train. */
    static void promise10HasBegun() {
        WindowSale x = Due.at(TWO);
        x.train(4, 0);
        Due.is("once", x.begin(1), 0);
        Due.is("twice", x.begin(1), 2);
        Due.is("elsewhere", x.begin(0), 2);
        Due.is("he stays", x.now(2), 1);
        x.undo();
        Due.is("undone", x.begin(0), 0);
        x.waits(4);
        x.train(4, 0);
        Due.is("with the next", x.begin(1), 0);
    }

    /** Promise 11: "NONE: another way": -1, 0, 1, 2. */
    static void promise11Ways() {
        WindowSale x = standing(ONE + "shy 0;", 60, 0, 0);
        for (int way : new int[] {-1, 2, Integer.MIN_VALUE, Integer.MAX_VALUE}) {
            Due.is("sell(" + way + ")", x.sell(way), -1);
        }
        Due.is("nothing sold", x.latest(), 0);
        Due.is("sell(0)", x.sell(0), 0);
        Due.is("sell(1)", x.sell(1), 0);
        Due.is("another way without a train", new WindowSale().sell(2), -1);
    }

    /** Promise 11, '2.': why not "1 no train stands there, or he has not begun": at S - 1 he sells, at S not. */
    static void promise11NoTrainOrNotBegun() {
        WindowSale x = Due.at(ONE);
        Due.is("no train", x.sell(0), 1);
        x.train(9, 0);
        Due.is("not begun", x.sell(0), 1);
        x.begin(0);
        x.waits(8);
        Due.is("at S - 1", x.sell(0), 0);
        Due.is("at S", x.sell(0), 1);
        x.train(9, 0);
        Due.is("not begun with the next", x.sell(0), 1);
    }

    /** Promise 11, '2.': why not "2 no fruit is left": with the last one he sells. */
    static void promise11NoFruitIsLeft() {
        WindowSale x = standing("window 7 1 3 9;basket 1;shy 0;", 60, 0, 0);
        Due.is("the last fruit", x.sell(0), 0);
        Due.is("none is left", x.now(3), 0);
        Due.is("FRUIT", x.sell(0), 2);
        Due.is("COIN", x.sell(1), 2);
        WindowSale empty = standing("window 7 1 3 9;basket 0;", 60, 0, 0);
        Due.is("an empty BASKET", empty.sell(1), 2);
        WindowSale full = standing("window 7 1 3 9;".repeat(10) + "basket 24;", 60, 0, 0);
        for (int k = 0; k < 24; k++) {
            Due.is("fruit " + k, full.sell(0), 0);
            if (k % 3 == 2) {
                full.walk(1);
            }
        }
        Due.is("24 are sold", full.sell(0), 2);
    }

    /** Promise 11, '2.': why not "3 the WINDOW has bought OFTEN": for OFTEN 0 to 3. */
    static void promise11BoughtOften() {
        for (int often = 0; often <= 3; often++) {
            WindowSale x = standing("window 7 1 " + often + " 9;shy 0;", 60, 0, 0);
            for (int k = 0; k < often; k++) {
                Due.is("sale " + k + " of " + often, x.sell(k % 2), 0);
            }
            Due.is("FRUIT behind " + often, x.sell(0), 3);
            Due.is("COIN behind " + often, x.sell(1), 3);
            x.waits(60);
            x.train(9, 0);
            x.begin(0);
            Due.is("of the next train", x.sell(0), often == 0 ? 3 : 0);
        }
    }

    /** Promise 11, '2.': "why not, the least": 1 ahead of 2 and 3, 2 ahead of 3. */
    static void promise11TheLeastReason() {
        WindowSale x = standing("window 7 1 1 9;basket 1;", 60, 0, 0);
        x.sell(0);
        Due.is("2 and 3", x.sell(0), 2);
        x.waits(60);
        Due.is("1, 2 and 3", x.sell(0), 1);
        WindowSale y = standing("window 7 1 1 9;basket 2;", 60, 0, 0);
        y.sell(0);
        Due.is("3", y.sell(0), 3);
        y.waits(60);
        Due.is("1 and 3", y.sell(0), 1);
    }

    /** Promise 11: why not: nothing changes, no SECOND goes, and there is nothing to undo. */
    static void promise11RefusedChangesNothing() {
        WindowSale x = standing("window 7 1 0 9;", 60, 0, 3);
        Due.is("refused", x.sell(0), 3);
        Due.is("SECOND", x.now(1), 3);
        Due.is("latest", x.latest(), 0);
        Due.is("undo takes the wait back", x.undo(), 2);
        Due.is("SECOND 0", x.now(1), 0);
    }

    /** Promise 11, '2.': FRUIT first with SECOND and TAKES below, at and above S: "ahead of its end". */
    static void promise11FruitEndsAtS() {
        int below = Due.seedOf(12, 5);
        for (int second = 5; second <= 9; second++) {
            WindowSale x = standing(ONE + "honest 6;", 10, below, second);
            x.sell(0);
            Due.is("FRUIT from " + second, x.latest(), second + 3 <= 10 ? CLEAN : RUN);
            Due.is("pence from " + second, x.now(4), 7);
            Due.is("fruits from " + second, x.now(3), 11);
            Due.is("SECOND from " + second, x.now(1), Math.min(10, second + 3));
        }
    }

    /** Promise 11, '2.': COIN first with SECOND and TAKES below, at and above S. */
    static void promise11CoinEndsAtS() {
        int above = Due.seedOf(12, 6);
        for (int second = 5; second <= 9; second++) {
            WindowSale x = standing(ONE + "shy 6;", 10, above, second);
            x.sell(1);
            boolean clean = second + 3 <= 10;
            Due.is("COIN from " + second, x.latest(), clean ? CLEAN : KEPT);
            Due.is("pence from " + second, x.now(4), 7);
            Due.is("fruits from " + second, x.now(3), clean ? 11 : 12);
            Due.is("bought from " + second, () -> x.window(0, 4), clean ? 1 : 0);
            Due.is("SECOND from " + second, x.now(1), Math.min(10, second + 3));
        }
    }

    /** Promise 11, '2.': "a draw of 12 below HONEST": each draw with HONEST below, at and above it. */
    static void promise11DrawBelowHonest() {
        for (int draw = 0; draw < 12; draw++) {
            int seed = Due.seedOf(12, draw);
            for (int honest = Math.max(0, draw - 1); honest <= draw + 1; honest++) {
                WindowSale x = standing(ONE + "honest " + honest + ";", 2, seed, 0);
                x.sell(0);
                Due.is("draw " + draw + ", HONEST " + honest, x.latest(), draw < honest ? RUN : LOST);
                Due.is("pence", x.now(4), draw < honest ? 7 : 0);
                Due.is("the fruit goes", x.now(3), 11);
                Due.is("it has bought", () -> x.window(0, 4), 1);
            }
        }
    }

    /** Promise 11, '2.': "a draw of 12 is SHY or above": each draw with SHY below, at and above it. */
    static void promise11DrawShyOrAbove() {
        for (int draw = 0; draw < 12; draw++) {
            int seed = Due.seedOf(12, draw);
            for (int shy = Math.max(0, draw - 1); shy <= draw + 1; shy++) {
                WindowSale x = standing(ONE + "shy " + shy + ";", 9, seed, 0);
                x.sell(1);
                Due.is("draw " + draw + ", SHY " + shy, x.latest(), draw >= shy ? CLEAN : NOT);
                Due.is("pence", x.now(4), draw >= shy ? 7 : 0);
                Due.is("fruits", x.now(3), draw >= shy ? 11 : 12);
                Due.is("SECONDS go all the same", x.now(1), 3);
            }
        }
    }

    /** Promise 11, '2.': HONEST and SHY at their ends: 0 and 12, for every draw. */
    static void promise11HonestAndShyAtTheirEnds() {
        for (int draw = 0; draw < 12; draw++) {
            int seed = Due.seedOf(12, draw);
            WindowSale none = standing(ONE + "honest 0;shy 0;", 2, seed, 0);
            none.sell(0);
            Due.is("HONEST 0", none.latest(), LOST);
            none.train(2, seed);
            none.begin(0);
            none.sell(1);
            Due.is("SHY 0", none.latest(), KEPT);
            WindowSale all = standing(ONE + "honest 12;shy 12;", 2, seed, 0);
            all.sell(0);
            Due.is("HONEST 12", all.latest(), RUN);
            all.train(2, seed);
            all.begin(0);
            all.sell(1);
            Due.is("SHY 12, late too", all.latest(), NOT);
        }
    }

    /** Promise 11, '2.': "Draws .. one behind the other": a CLEAN sale FRUIT first draws none. */
    static void promise11DrawsOneBehindTheOther() {
        int seed = Due.seedOf(12, 6, 5, 0);
        WindowSale x = standing("window 7 3 3 9;shy 6;honest 1;", 11, seed, 0);
        x.sell(1);
        Due.is("6: it buys", x.latest(), CLEAN);
        x.sell(0);
        Due.is("no draw", x.latest(), CLEAN);
        x.sell(1);
        Due.is("5: NOT", x.latest(), NOT);
        x.sell(0);
        Due.is("0: RUN", x.latest(), RUN);
    }

    /** Promise 11, '2.': "the WINDOW has bought one more (CLEAN, RUN, LOST)": by KEPT and NOT it has not. */
    static void promise11WhatCountsAsBought() {
        int[] seeds = {Due.seedOf(12, 0), Due.seedOf(12, 0), Due.seedOf(12, 11), Due.seedOf(12, 11), Due.seedOf(12, 0)};
        int[] stays = {9, 2, 2, 2, 9};
        int[] ways = {0, 0, 0, 1, 1};
        int[] results = {CLEAN, RUN, LOST, KEPT, NOT};
        for (int k = 0; k < results.length; k++) {
            WindowSale x = standing(ONE, stays[k], seeds[k], 0);
            x.sell(ways[k]);
            int bought = results[k] <= LOST ? 1 : 0;
            Due.is("result " + k, x.latest(), results[k]);
            Due.is("bought of this train by " + k, () -> x.window(0, 4), bought);
            Due.is("bought in all by " + k, () -> x.window(0, 5), bought);
        }
    }

    /** Promise 11: a WINDOW that bought NOT may be asked again, beyond OFTEN. */
    static void promise11NotFillsNoWindow() {
        WindowSale x = standing("window 7 1 1 9;shy 12;", 60, 0, 0);
        for (int k = 0; k < 20; k++) {
            Due.is("asked " + k, x.sell(1), 0);
        }
        Due.is("NOT so far", x.now(10), 20);
        Due.is("fruits", x.now(3), 12);
        Due.is("FRUIT then", x.sell(0), 0);
        Due.is("full", x.sell(1), 3);
    }

    /** Promise 12: "NONE: another way": -1, 0, 1, 2. */
    static void promise12Ways() {
        WindowSale x = standing(TWO, 60, 0, 0);
        for (int up : new int[] {-1, 2, Integer.MIN_VALUE, Integer.MAX_VALUE}) {
            Due.is("walk(" + up + ")", x.walk(up), -1);
        }
        Due.is("he stays", x.now(2), 0);
        Due.is("walk(1)", x.walk(1), 0);
        Due.is("walk(0)", x.walk(0), 0);
        Due.is("another way without a train", new WindowSale().walk(2), -1);
    }

    /** Promise 12, '2.': "1 as above": ahead of 2. */
    static void promise12NoTrainOrNotBegun() {
        WindowSale x = Due.at(ONE);
        Due.is("no train", x.walk(1), 1);
        x.train(3, 0);
        Due.is("not begun", x.walk(0), 1);
        x.begin(0);
        Due.is("there is none", x.walk(0), 2);
        x.waits(3);
        Due.is("moved, and none", x.walk(0), 1);
    }

    /** Promise 12, '2.': "2 there is none": DOWN from 0, UP from the last; to both of them he comes. */
    static void promise12ThereIsNone() {
        WindowSale x = standing("window 1 1 1 1;".repeat(10), 60, 0, 0);
        Due.is("DOWN from 0", x.walk(0), 2);
        Due.is("no SECOND goes", x.now(1), 0);
        for (int w = 1; w <= 9; w++) {
            Due.is("UP to " + w, x.walk(1), 0);
        }
        Due.is("UP from 9", x.walk(1), 2);
        Due.is("he stays", x.now(2), 9);
        Due.is("SECOND 9", x.now(1), 9);
        for (int w = 8; w >= 0; w--) {
            Due.is("DOWN to " + w, x.walk(0), 0);
        }
        Due.is("DOWN from 0 again", x.walk(0), 2);
        WindowSale one = standing(ONE, 60, 0, 0);
        Due.is("UP of one", one.walk(1), 2);
    }

    /** Promise 12, '2.': "SECONDS go on to S at most": WALK below, at and above what is left. */
    static void promise12WalksToSAtMost() {
        for (int stands = 3; stands <= 6; stands++) {
            WindowSale x = standing(TWO + "walk 5;", stands, 0, 0);
            Due.is("walk", x.walk(1), 0);
            Due.is("SECOND of " + stands, x.now(1), Math.min(5, stands));
            Due.is("where", x.now(2), 1);
            Due.is("stands there of " + stands, x.now(0), stands > 5 ? 1 : 0);
        }
    }

    /** Promise 13: "n (1 to 60)", "NONE: not as told": 0, 1, 60, 61. */
    static void promise13WaitsOf1To60() {
        WindowSale x = standing(ONE, 60, 0, 0);
        for (int n : new int[] {0, 61, -1, Integer.MIN_VALUE, Integer.MAX_VALUE}) {
            Due.is("waits(" + n + ")", x.waits(n), -1);
        }
        Due.is("SECOND 0", x.now(1), 0);
        Due.is("waits(1)", x.waits(1), 0);
        Due.is("SECOND 1", x.now(1), 1);
        x.undo();
        Due.is("waits(60)", x.waits(60), 0);
        Due.is("SECOND 60", x.now(1), 60);
        Due.is("not as told without a train", x.waits(61), -1);
    }

    /** Promise 13, '2.': "1 as above". */
    static void promise13NoTrainOrNotBegun() {
        WindowSale x = Due.at(ONE);
        Due.is("no train", x.waits(1), 1);
        x.train(1, 0);
        Due.is("not begun", x.waits(1), 1);
        x.begin(0);
        Due.is("at S - 1", x.waits(1), 0);
        Due.is("at S", x.waits(1), 1);
    }

    /** Promise 13, '2.': "SECONDS go on to S at most": he waits below, to and beyond it. */
    static void promise13WaitsToSAtMost() {
        for (int n = 4; n <= 6; n++) {
            WindowSale x = standing(ONE, 5, 0, 0);
            x.waits(n);
            Due.is("SECOND behind " + n, x.now(1), Math.min(n, 5));
            Due.is("stands there behind " + n, x.now(0), n < 5 ? 1 : 0);
        }
    }

    /** Promise 14: "NONE: none is": ahead of any act, behind calls that were refused, behind the last. */
    static void promise14NoneIsUndone() {
        WindowSale x = Due.at(ONE);
        Due.is("ahead of any", x.undo(), -1);
        x.begin(0);
        x.sell(0);
        x.walk(1);
        x.waits(1);
        x.train(61, 0);
        Due.is("behind refused ones", x.undo(), -1);
        x.train(9, 0);
        x.train(9, 0);
        x.begin(1);
        Due.is("one was done", x.undo(), 0);
        Due.is("it is undone", x.now(1), -1);
        Due.is("none any more", x.undo(), -1);
    }

    /** Promise 14: "8 at most are kept": with 7, 8 and 9 acts done. */
    static void promise14EightAreKept() {
        for (int acts = 7; acts <= 9; acts++) {
            WindowSale x = standing(ONE, 60, 0, 0);
            for (int k = 2; k < acts; k++) {
                x.waits(1);
            }
            int kept = Math.min(8, acts);
            for (int more = kept - 1; more >= 0; more--) {
                Due.is("of " + acts + ", more", x.undo(), more);
            }
            Due.is("of " + acts + ", none", x.undo(), -1);
            Due.is("trains left of " + acts, x.now(5), acts > 8 ? 1 : 0);
        }
    }

    /** Promise 14: "8 at most are kept": undone and done again, more than once around. */
    static void promise14EightAroundAndAround() {
        WindowSale x = standing(ONE, 60, 0, 0);
        for (int round = 0; round < 3; round++) {
            for (int k = 0; k < 11; k++) {
                x.waits(1);
            }
            for (int k = 7; k >= 3; k--) {
                Due.is("undo, more", x.undo(), k);
            }
            Due.is("SECOND in round " + round, x.now(1), 6 * (round + 1));
        }
        for (int k = 2; k >= 0; k--) {
            Due.is("undo at last, more", x.undo(), k);
        }
        Due.is("none", x.undo(), -1);
        Due.is("SECOND at last", x.now(1), 15);
    }

    /** Promise 14: what was undone is as never done, whichever act or LOG comes next. */
    static void promise14AsNeverDone() {
        for (int next = 0; next < 5; next++) {
            WindowSale x = standing(TWO + "stands 60 1;", 60, 0, 0);
            x.waits(5);
            Due.is("undo", x.undo(), 2);
            Due.is("next " + next, doesNext(x, next), next == 4 ? -1 : 0);
            Due.is("SECOND behind " + next, x.now(1), next == 0 ? 3 : next == 4 ? 2 : 1);
        }
        WindowSale y = Due.at(TWO);
        y.train(9, 0);
        y.undo();
        Due.is("a train again", y.train(5, 0), 0);
        Due.is("the only one", y.now(5), 1);
        y.begin(1);
        y.undo();
        Due.is("begun again", y.begin(0), 0);
        Due.is("there", y.now(2), 0);
    }

    private static int doesNext(WindowSale x, int next) {
        switch (next) {
            case 0:
                return x.sell(0);
            case 1:
                return x.walk(1);
            case 2:
                return x.waits(1);
            case 3:
                return Due.log(x, "waits 1;", 1) == -1 ? 0 : 1;
            default:
                return Due.log(x, "waits 2;", 1);
        }
    }

    /** Promise 14: "a LOG that was lived is undone" at once, however many LINES; one that was judged is none. */
    static void promise14ALogIsOne() {
        WindowSale x = Due.at(ONE);
        Due.log(x, "train 60;at 0;" + "waits 1;".repeat(38), 1);
        Due.is("lived", x.now(1), 38);
        Due.is("it is one", x.undo(), 0);
        Due.is("all is undone", x.now(5), 0);
        Due.log(x, "train 60;at 0;", 0);
        Due.is("judged", x.undo(), -1);
        Due.log(x, "train 60;at 0", 1);
        Due.is("a FAULT", x.undo(), -1);
        Due.log(x, "train 60;at 0;at 0;waits 1;", 1);
        Due.is("lived so far", x.now(2), 0);
        Due.is("it is one, too", x.undo(), 0);
        Due.is("all is undone, too", x.now(5), 0);
    }

    /** Promise 14: a sale undone takes pence, fruit, what was bought, counts and the draw back. */
    static void promise14ASaleIsUndoneWhole() {
        int seed = Due.seedOf(12, 6, 5);
        WindowSale x = standing(ONE, 60, seed, 0);
        for (int k = 0; k < 3; k++) {
            x.sell(1);
            Due.is("the same draw", x.latest(), CLEAN);
            Due.is("undo", x.undo(), 2);
            Due.is("pence", x.now(4), 0);
            Due.is("fruits", x.now(3), 12);
            Due.is("CLEAN", x.now(6), 0);
            Due.is("bought", () -> x.window(0, 4), 0);
            Due.is("bought in all", () -> x.window(0, 5), 0);
            Due.is("SECOND", x.now(1), 0);
        }
    }

    /** Promise 15: "0: none was", and "of all that are not undone". */
    static void promise15OfAllNotUndone() {
        int seed = Due.seedOf(12, 6, 5);
        WindowSale x = standing(ONE, 60, seed, 0);
        Due.is("none was", x.latest(), 0);
        x.sell(1);
        x.sell(1);
        Due.is("the latest", x.latest(), NOT);
        x.sell(2);
        Due.is("refused", x.latest(), NOT);
        x.undo();
        Due.is("the one ahead of it", x.latest(), CLEAN);
        x.waits(60);
        x.train(9, 0);
        Due.is("of another train", x.latest(), CLEAN);
        x.undo();
        x.undo();
        x.undo();
        Due.is("none is left", x.latest(), 0);
    }

    /** Promise 16: "NONE: no train stands there": ahead of any, at S - 1, at S. */
    static void promise16NoTrainStandsThere() {
        WindowSale x = Due.at(ONE + "whistle 30;");
        Due.is("ahead of any", x.heard(), -1);
        x.train(0, 0);
        Due.is("of 0 SECONDS", x.heard(), -1);
        x.train(2, 0);
        x.begin(0);
        x.waits(1);
        Due.is("at S - 1", x.heard(), 1);
        x.waits(1);
        Due.is("at S", x.heard(), -1);
    }

    /** Promise 16, '2.': "heard from SECOND S less N on": one below, on it. */
    static void promise16HeardFromSLessN() {
        for (int whistle = 0; whistle <= 30; whistle += 10) {
            WindowSale x = standing(ONE + "whistle " + whistle + ";", 40, 0, 0);
            for (int second = 0; second < 40; second++) {
                Due.is("whistle " + whistle + " at " + second, x.heard(), second >= 40 - whistle ? 1 : 0);
                x.waits(1);
            }
        }
    }

    /** Promise 16, '2.': "(0 at least)": S below, at and above N. */
    static void promise16From0AtLeast() {
        for (int stands = 4; stands <= 6; stands++) {
            WindowSale x = standing(ONE + "whistle 5;", stands, 0, 0);
            Due.is("at 0 of " + stands, x.heard(), stands <= 5 ? 1 : 0);
            x.waits(1);
            Due.is("at 1 of " + stands, x.heard(), 1);
        }
        WindowSale never = standing(ONE, 1, 0, 0);
        Due.is("N 0, not even at S - 1", never.heard(), 0);
    }
}
