/** Promises 21 to 30, 34, 36 and 37: plans, sellers, two who share, days by draws. */
public final class PlansTest {
    private static final String THREE =
        "window 10 2 2 20;window 6 3 1 6;window 20 4 1 30;stands 5 2;stands 9 1;stands 12 3;"
        + "walk 2;basket 4;honest 3;shy 6;whistle 3;again 6;runner 3;cost 5;";

    public static void main(String[] args) {
        plans();
        bestPlan();
        likePlans();
        sellers();
        borders();
        shares();
        races();
        changes();
        stoodByPence();
        drawnDays();
        Due.close("PlansTest");
    }

    private static void planIs(WindowSale x, int w, int up, int f, int above, int below) {
        Due.fraction("plan(" + w + ", " + up + ", " + f + ")",
            () -> x.plan(w, up, f, 0), () -> x.plan(w, up, f, 1), above, below);
    }

    private static void plans() {
        WindowSale x = Due.at(THREE);
        planIs(x, 0, 1, 0, 0, 1);
        planIs(x, 0, 1, 1, 15, 1);
        planIs(x, 0, 1, 4, 185, 6);
        planIs(x, 0, 1, 24, 185, 6);
        planIs(x, 2, 0, 4, 365, 12);
        planIs(x, 1, 1, 4, 58, 3);
        planIs(x, 0, 0, 4, 20, 1);
        planIs(x, 0, 0, 2, 20, 1);
        planIs(x, 0, 0, 1, 10, 1);
        Due.throwing("f 25", () -> x.plan(0, 1, 25, 0));
        Due.throwing("f -1", () -> x.plan(0, 1, -1, 0));
        Due.throwing("up 2", () -> x.plan(0, 2, 1, 0));
        Due.throwing("up -1", () -> x.plan(0, -1, 1, 0));
        Due.throwing("w 3", () -> x.plan(3, 1, 1, 0));
        Due.throwing("w -1", () -> x.plan(-1, 1, 1, 0));
        Due.throwing("what 2", () -> x.plan(0, 1, 1, 2));
        Due.is("new STATION, new plan", Due.station(x, "window 3 1 1 1;"), 1);
        planIs(x, 0, 1, 4, 3, 1);
        Due.throwing("gone", () -> x.plan(1, 1, 4, 0));
    }

    private static void bestIs(WindowSale x, int... due) {
        for (int k = 0; k < 5; k++) {
            Due.is("best(" + k + ")", x.best(k), due[k]);
        }
    }

    private static void bestPlan() {
        WindowSale x = Due.at(THREE);
        bestIs(x, 0, 1, 3, 40, 12);
        int[][] sales = {{0, 0, 0}, {0, 2, 0}, {2, 8, 0}};
        for (int k = 0; k < 3; k++) {
            for (int what = 0; what < 3; what++) {
                Due.is("sale(" + k + ", " + what + ")", x.sale(k, what), sales[k][what]);
            }
        }
        Due.is("sale(3, 0)", x.sale(3, 0), -1);
        Due.is("sale(-1, 0)", x.sale(-1, 0), -1);
        Due.is("sale(0, 3)", x.sale(0, 3), -1);
        Due.is("sale(0, -1)", x.sale(0, -1), -1);
        Due.is("best(5)", x.best(5), -1);
        Due.is("best(-1)", x.best(-1), -1);
        WindowSale none = Due.at("stands 5 1;");
        Due.is("no WINDOWS", none.best(0), -1);
        Due.is("no sale", none.sale(0, 0), -1);
        // COIN is better at once: it takes longer than it stands
        WindowSale coin = Due.at("window 10 9 2 20;stands 5 1;honest 3;shy 3;");
        bestIs(coin, 0, 1, 1, 10, 9);
        Due.is("COIN", coin.sale(0, 2), 1);
        // it may end behind the last SECOND
        bestIs(Due.at("window 10 9 3 20;stands 60 1;window 1 9 3 20;basket 24;honest 12;"),
            0, 1, 6, 33, 55);
    }

    private static void likePlans() {
        bestIs(Due.at("window 5 1 3 9;basket 0;"), 0, 1, 0, 0, 0);
        bestIs(Due.at("window 5 1 0 9;window 5 1 2 9;"), 0, 1, 2, 10, 3);
        // alike UP from 0 and DOWN from 1; UP, then the first WINDOW
        bestIs(Due.at("window 5 1 1 9;window 5 1 1 9;"), 0, 1, 2, 10, 3);
        // one fruit: the fewest at the first WINDOW, he walks on with it
        WindowSale x = Due.at("window 5 1 1 9;window 5 1 1 9;basket 1;");
        bestIs(x, 0, 1, 1, 5, 2);
        Due.is("at the second", x.sale(0, 0), 1);
        Due.is("behind a walk", x.sale(0, 1), 1);
        // nothing gains: no sales
        bestIs(Due.at("window 5 9 3 9;stands 2 1;honest 0;shy 12;"), 0, 1, 0, 0, 0);
        // better from above
        bestIs(Due.at("window 9 1 3 9;window 99 1 1 9;stands 2 1;stands 4 1;honest 0;shy 12;walk 2;"),
            1, 0, 2, 108, 4);
    }

    private static void earnsIs(WindowSale x, int n, int k, int above, int below) {
        Due.fraction("earns(" + n + ", " + k + ")",
            () -> x.earns(n, k, 0), () -> x.earns(n, k, 1), above, below);
    }

    private static void sellers() {
        WindowSale x = Due.at(THREE);
        Due.is("sellers", x.sellers(), 3);
        earnsIs(x, 1, 0, 185, 6);
        earnsIs(x, 2, 0, 24, 1);
        earnsIs(x, 2, 1, 20, 1);
        earnsIs(x, 3, 0, 20, 1);
        earnsIs(x, 3, 1, 6, 1);
        earnsIs(x, 3, 2, 20, 1);
        Due.fraction("curve(1)", () -> x.curve(1, 0), () -> x.curve(1, 1), 185, 6);
        Due.fraction("curve(2)", () -> x.curve(2, 0), () -> x.curve(2, 1), 44, 1);
        Due.fraction("curve(3)", () -> x.curve(3, 0), () -> x.curve(3, 1), 46, 1);
        Due.throwing("earns(0, 0)", () -> x.earns(0, 0, 0));
        Due.throwing("earns(4, 0)", () -> x.earns(4, 0, 0));
        Due.throwing("earns(2, 2)", () -> x.earns(2, 2, 0));
        Due.throwing("earns(2, -1)", () -> x.earns(2, -1, 0));
        Due.throwing("earns what", () -> x.earns(2, 0, 2));
        Due.throwing("curve(0)", () -> x.curve(0, 0));
        Due.throwing("curve(4)", () -> x.curve(4, 0));
        Due.throwing("curve what", () -> x.curve(1, -1));
        String rows = "window 5 1 1 9;window 5 1 1 9;window 5 1 1 9;window 2 1 1 9;";
        Due.is("cost 5", Due.at(rows + "cost 5;").sellers(), 2);
        Due.is("cost 2", Due.at(rows + "cost 2;").sellers(), 4);
        Due.is("cost 3", Due.at(rows + "cost 3;").sellers(), 2);
        Due.is("cost 18", Due.at(rows + "cost 18;").sellers(), 0);
        Due.is("cost 17", Due.at(rows + "cost 17;").sellers(), 1);
        Due.is("cost 0", Due.at(rows + "cost 0;basket 0;").sellers(), 4);
        Due.is("no WINDOWS", Due.at("cost 0;").sellers(), -1);
        // rows of 4 by 3: the first one is 1 longer
        WindowSale y = Due.at(rows);
        earnsIs(y, 3, 0, 10, 1);
        earnsIs(y, 3, 1, 5, 1);
        earnsIs(y, 3, 2, 2, 1);
        // a single one has to begin at an end; two may begin in the middle
        WindowSale z = Due.at("window 1 1 1 1;window 99 1 1 1;window 99 1 1 1;window 1 1 1 1;"
            + "walk 5;stands 2 1;honest 0;shy 12;cost 50;");
        earnsIs(z, 1, 0, 1, 1);
        earnsIs(z, 2, 0, 99, 1);
        Due.is("the most, not the first", z.sellers(), 2);
    }

    private static void borders() {
        Due.is("THREE", Due.at(THREE).border(), 1);
        Due.is("none", new WindowSale().border(), 0);
        Due.is("one", Due.at("window 5 1 1 1;").border(), 0);
        Due.is("alike", Due.at("window 5 1 1 1;window 5 1 1 1;").border(), 1);
        Due.is("all nothing", Due.at("window 5 1 0 1;window 5 1 0 1;").border(), 0);
        Due.is("two of three", Due.at("window 2 1 1 1;window 3 1 1 1;window 5 1 1 1;").border(), 2);
    }

    private static void shares() {
        WindowSale x = Due.at("window 1 1 1 1;".repeat(10));
        Due.is("share(0, 9)", x.share(0, 9), 0b0000011111);
        Due.is("share(0, 8)", x.share(0, 8), 0b1000011111);
        Due.is("share(9, 0)", x.share(9, 0), 0b1000000000);
        Due.is("share(3, 3)", x.share(3, 3), 0b1111111000);
        Due.is("share(2, 1)", x.share(2, 1), 0b1111111100);
        Due.is("share(10, 0)", x.share(10, 0), -1);
        Due.is("share(0, 10)", x.share(0, 10), -1);
        Due.is("share(-1, 0)", x.share(-1, 0), -1);
        Due.is("share(0, -1)", x.share(0, -1), -1);
    }

    private static void races() {
        WindowSale x = Due.at(THREE);
        Due.is("first by 12", x.race(0, 2, 12, 0), 26);
        Due.is("second by 12", x.race(0, 2, 12, 1), 20);
        Due.is("first by 9", x.race(0, 2, 9, 0), 26);
        Due.is("first by 8", x.race(0, 2, 8, 0), 20);
        Due.is("first by 3", x.race(0, 2, 3, 0), 10);
        Due.is("second by 3", x.race(0, 2, 3, 1), 0);
        Due.is("both at one: the first", x.race(1, 1, 60, 0), 26);
        Due.is("both at one: the second", x.race(1, 1, 60, 1), 20);
        Due.is("apart, the first", x.race(2, 0, 60, 0), 20);
        Due.is("apart, the second", x.race(2, 0, 60, 1), 20);
        Due.is("by 0", x.race(0, 2, 0, 0), 0);
        Due.is("a", x.race(3, 0, 0, 0), -1);
        Due.is("b", x.race(0, -1, 0, 0), -1);
        Due.is("last 61", x.race(0, 0, 61, 0), -1);
        Due.is("last -1", x.race(0, 0, -1, 0), -1);
        Due.is("who 2", x.race(0, 0, 0, 2), -1);
        Due.is("who -1", x.race(0, 0, 0, -1), -1);
        // a full BASKET ends: 2 fruits
        WindowSale y = Due.at("window 5 1 3 1;window 7 1 3 1;basket 2;");
        Due.is("2 fruits", y.race(0, 1, 60, 0), 10);
        Due.is("2 fruits, second", y.race(0, 1, 60, 1), 14);
        // the slow one loses the middle
        WindowSale z = Due.at("window 1 9 3 1;window 5 1 1 1;window 2 1 1 1;");
        Due.is("slow", z.race(0, 2, 60, 0), 3);
        Due.is("quick", z.race(0, 2, 60, 1), 7);
    }

    private static void changes() {
        WindowSale x = Due.at("window 10 1 3 9;window 1 1 3 9;basket 2;");
        Due.is("25", x.change(0, 25), 2005);
        Due.is("9", x.change(0, 9), 9);
        Due.is("1", x.change(0, 1), 1);
        Due.is("10", x.change(0, 10), 1000);
        Due.is("999, a full BASKET", x.change(0, 999), 2979);
        Due.is("0", x.change(0, 0), -1);
        Due.is("1000", x.change(0, 1000), -1);
        Due.is("-5", x.change(0, -5), -1);
        Due.is("w 2", x.change(2, 10), -1);
        x.train(9, 0);
        x.begin(0);
        x.sell(0);
        Due.is("one is left", x.change(0, 99), 1089);
        Due.is("one is left at another", x.change(1, 3), 1002);
        x.waits(60);
        Due.is("a full BASKET, he can't act", x.change(1, 3), 2001);
        WindowSale y = Due.at("window 10 1 1 9;basket 9;");
        y.train(9, 0);
        y.begin(0);
        Due.is("OFTEN", y.change(0, 99), 1089);
        y.sell(0);
        Due.is("it buys no more", y.change(0, 99), 99);
    }

    private static void stoodByPence() {
        WindowSale x = Due.at(THREE);
        Due.is("20", Due.stood(x, 20), 0b011);
        Due.is("40", Due.stood(x, 40), 0b100);
        Due.is("0", Due.stood(x, 0), 0);
        Due.is("256", Due.stood(x, 256 + 20), 0);
        Due.is("no bytes", x.stood(), -1);
        Due.tape(x, "abc");
        Due.is("three bytes", x.stood(), -1);
        Due.is("the tape is empty", x.count(11), 0);
        WindowSale y = Due.at("window 99 1 3 9;window 99 1 3 9;stands 60 1;");
        Due.is("594", Due.stood(y, 594), 1);
        Due.is("82: the low byte alone", Due.stood(y, 82), 0);
        Due.is("no WINDOWS, nothing", Due.stood(new WindowSale(), 0), 1);
    }

    private static void drawnDays() {
        WindowSale x = Due.at("window 7 9 3 99;stands 60 1;shy 0;honest 12;basket 2;");
        Due.is("drawn", x.drawn(3, 9), 42);
        Due.is("luckiest", x.luckiest(3, 9), 14);
        Due.is("n 0", x.drawn(0, 9), -1);
        Due.is("n 61", x.drawn(61, 9), -1);
        Due.is("n 60", x.drawn(60, 9), 840);
        Due.is("luckiest n 0", x.luckiest(0, 9), -1);
        Due.is("luckiest n 61", x.luckiest(61, 9), -1);
        Due.is("no WINDOWS", new WindowSale().drawn(1, 1), -1);
        Due.is("no WINDOWS, luckiest", new WindowSale().luckiest(1, 1), -1);
        Due.is("all stays", x.now(4), 0);
        Due.is("no trains", x.now(5), 0);
        // one sale, FRUIT first, CLEAN only in the long one
        WindowSale y = Due.at("window 10 5 1 9;stands 2 1;stands 9 3;honest 4;shy 12;");
        for (int seed = -5; seed < 30; seed++) {
            int step = seed * 1103515245 + 12345;
            int pence = 10;
            if ((step >>> 8) % 4 == 0) {
                step = step * 1103515245 + 12345;
                pence = (step >>> 8) % 12 < 4 ? 10 : 0;
            }
            Due.is("one train by " + seed, y.drawn(1, seed), pence);
            Due.is("luckiest by " + seed, y.luckiest(1, seed), pence);
        }
    }
}
