/** Bounds of plans and of several who sell ('==== 3.'), promises 21 to 30, 34, 36 and 37. */
public final class PlanBoundsTest {
    /** Ten WINDOWS that buy three each, for a train that stands long and pays always. */
    private static final String TEN = "window 1 1 3 1;".repeat(10) + "stands 60 1;honest 12;basket 24;";
    /** Ten WINDOWS that buy one each, for 1 to 10 pence. */
    private static final String STAIRS = stairs() + "stands 60 1;honest 12;";
    private static final int[] BEYOND = {Integer.MIN_VALUE, -1000, -2, -1};

    public static void main(String[] args) {
        Due.promises(PlanBoundsTest.class);
    }

    private static String stairs() {
        StringBuilder text = new StringBuilder();
        for (int price = 1; price <= 10; price++) {
            text.append("window ").append(price).append(" 1 1 1;");
        }
        return text.toString();
    }

    private static void planIs(WindowSale x, int w, int up, int f, int above, int below) {
        Due.fraction("plan(" + w + ", " + up + ", " + f + ")",
            () -> x.plan(w, up, f, 0), () -> x.plan(w, up, f, 1), above, below);
    }

    private static void bestIs(WindowSale x, int... due) {
        for (int k = 0; k < 5; k++) {
            Due.is("best(" + k + ")", x.best(k), due[k]);
        }
    }

    private static void saleIs(WindowSale x, int k, int... due) {
        for (int what = 0; what < 3; what++) {
            Due.is("sale(" + k + ", " + what + ")", x.sale(k, what), due[what]);
        }
    }

    private static void earnsIs(WindowSale x, int n, int k, int above) {
        Due.fraction("earns(" + n + ", " + k + ")", () -> x.earns(n, k, 0), () -> x.earns(n, k, 1), above, 1);
    }

    private static void curveIs(WindowSale x, int n, int above) {
        Due.fraction("curve(" + n + ")", () -> x.curve(n, 0), () -> x.curve(n, 1), above, 1);
    }

    /** Promise 21: "with f (0 to 24) fruits": -1, 0, 24, 25. */
    static void promise21FruitsOf0To24() {
        WindowSale x = Due.at(TEN);
        planIs(x, 0, 1, 0, 0, 1);
        planIs(x, 0, 1, 1, 1, 1);
        planIs(x, 0, 1, 23, 23, 1);
        planIs(x, 0, 1, 24, 24, 1);
        planIs(x, 9, 0, 24, 24, 1);
        Due.throwing("f 25", () -> x.plan(0, 1, 25, 0));
        Due.throwing("f MAX", () -> x.plan(0, 1, Integer.MAX_VALUE, 0));
        for (int f : BEYOND) {
            Due.throwing("f " + f, () -> x.plan(0, 1, f, 0));
        }
    }

    /** Promise 21, PLAN: "0 to OFTEN": fruits one below, at and above it. */
    static void promise21SalesOf0ToOften() {
        for (int often = 0; often <= 3; often++) {
            WindowSale x = Due.at("window 10 1 " + often + " 9;stands 60 1;");
            for (int f = 0; f <= 4; f++) {
                planIs(x, 0, 1, f, 10 * Math.min(f, often), 1);
            }
        }
    }

    /** Promise 21, PLAN: UP from the last WINDOW and DOWN from the first there is that one alone. */
    static void promise21AtTheEndsOfTheTrain() {
        WindowSale x = Due.at(STAIRS);
        planIs(x, 9, 1, 24, 10, 1);
        planIs(x, 8, 1, 24, 19, 1);
        planIs(x, 0, 0, 24, 1, 1);
        planIs(x, 1, 0, 24, 3, 1);
        planIs(x, 0, 1, 24, 55, 1);
        planIs(x, 9, 0, 24, 55, 1);
    }

    /** Promise 21, PLAN: of ten WINDOWS UP from the first is not DOWN from the last. */
    static void promise21UpIsNotDown() {
        WindowSale x = Due.at(stairs() + "stands 3 1;honest 0;shy 12;");
        planIs(x, 0, 1, 24, 3, 1);
        planIs(x, 9, 0, 24, 19, 1);
        planIs(x, 9, 1, 24, 10, 1);
        planIs(x, 0, 0, 24, 1, 1);
    }

    /** Promise 22, BEST PLAN: the last of ten WINDOWS, DOWN: ahead of those that gain less. */
    static void promise22DownFromTheLast() {
        WindowSale x = Due.at(stairs() + "stands 1 1;stands 3 1;honest 0;shy 12;");
        bestIs(x, 9, 0, 2, 19, 3);
        saleIs(x, 0, 9, 0, 0);
        saleIs(x, 1, 8, 2, 0);
    }

    /** Promise 22, BEST PLAN: he comes to the last WINDOW of his way at SECOND 59, and at 60: then he sells nothing. */
    static void promise22ComesAtSecond59And60() {
        String stands = "walk 4;stands 27 9;stands 60 1;honest 12;";
        WindowSale x = Due.at("window 1 1 1 1;window 1 8 3 1;window 99 9 3 1;" + stands);
        bestIs(x, 2, 0, 7, 301, 60);
        saleIs(x, 6, 0, 59, 0);
        WindowSale y = Due.at("window 1 1 1 1;window 1 1 0 1;window 2 7 3 1;window 99 9 3 1;" + stands);
        bestIs(y, 3, 0, 6, 303, 52);
        saleIs(y, 6, -1, -1, -1);
    }

    /** Promise 21: "no such ones": WINDOWS, UP (1) or DOWN (0), what. */
    static void promise21NoSuchOnes() {
        WindowSale x = Due.at(STAIRS);
        Due.throwing("WINDOW 10", () -> x.plan(10, 1, 1, 0));
        Due.throwing("up 2", () -> x.plan(0, 2, 1, 0));
        Due.throwing("what 2", () -> x.plan(0, 1, 1, 2));
        for (int k : BEYOND) {
            Due.throwing("WINDOW " + k, () -> x.plan(k, 1, 1, 0));
            Due.throwing("up " + k, () -> x.plan(0, k, 1, 0));
            Due.throwing("what " + k, () -> x.plan(0, 1, 1, k));
        }
        Due.throwing("no WINDOWS", () -> new WindowSale().plan(0, 1, 1, 0));
    }

    /** Promise 21, PLAN: sales that begin at S - 1 and at S: the last of them gains nothing. */
    static void promise21WhereGainEnds() {
        WindowSale x = Due.at("window 10 2 3 9;stands 5 1;honest 4;shy 12;");
        planIs(x, 0, 1, 2, 20, 1);
        planIs(x, 0, 1, 3, 70, 3);
        WindowSale y = Due.at("window 10 2 3 9;stands 4 1;honest 4;shy 12;");
        planIs(y, 0, 1, 2, 20, 1);
        planIs(y, 0, 1, 3, 20, 1);
        WindowSale walker = Due.at("window 1 1 0 1;window 10 1 1 9;stands 5 1;walk 4;");
        planIs(walker, 0, 1, 1, 10, 1);
        WindowSale late = Due.at("window 1 1 0 1;window 10 1 1 9;stands 5 1;walk 5;");
        planIs(late, 0, 1, 1, 0, 1);
    }

    /** Promise 21, PLAN: SECONDS of 0 to 3 sales go ahead of those at the next WINDOW. */
    static void promise21SecondsGoAlong() {
        WindowSale x = Due.at("window 10 1 3 1;window 9 1 3 1;stands 5 1;honest 0;shy 12;");
        planIs(x, 0, 1, 6, 39, 1);
        planIs(x, 0, 1, 3, 30, 1);
        planIs(x, 1, 0, 6, 39, 1);
        WindowSale y = Due.at("window 10 1 3 1;window 10 2 3 1;stands 4 1;honest 0;shy 12;");
        planIs(y, 0, 1, 6, 30, 1);
        planIs(y, 1, 0, 6, 30, 1);
    }

    /** Promise 21: of a STATION told behind one whose trains stand longer. */
    static void promise21BehindALongerOne() {
        WindowSale x = Due.at("window 10 1 3 1;window 10 1 3 1;stands 60 9;");
        planIs(x, 0, 1, 6, 60, 1);
        Due.station(x, "window 10 1 3 1;window 10 1 3 1;stands 2 1;");
        planIs(x, 0, 1, 6, 20, 1);
        Due.is("best(2)", x.best(2), 2);
        WindowSale y = Due.at("window 10 1 3 1;window 10 1 3 1;stands 60 9;");
        Due.is("six sales", y.best(2), 6);
        // he comes to the second WINDOW at the very SECOND at which the train moves
        Due.station(y, "window 10 1 2 1;window 1 1 3 1;stands 3 1;");
        bestIs(y, 0, 1, 2, 20, 2);
    }

    /** Promise 21, PLAN: the third sale at the third WINDOW begins at SECOND 59, and at 60: then it gains nothing. */
    static void promise21AtSecond59And60() {
        String rest = "window 1 9 1 1;stands 60 1;walk 2;honest 12;";
        WindowSale x = Due.at("window 10 9 3 1;window 10 6 3 1;window 10 5 3 1;" + rest);
        planIs(x, 0, 1, 9, 90, 1);
        bestIs(x, 0, 1, 9, 90, 64);
        saleIs(x, 8, 2, 59, 0);
        WindowSale y = Due.at("window 10 9 3 1;window 10 5 3 1;window 10 7 3 1;" + rest);
        planIs(y, 0, 1, 9, 80, 1);
    }

    /** Promise 21, PLAN: "at SECOND 0, WINDOWS that have not bought", wherever the train is now. */
    static void promise21FromSecond0() {
        WindowSale x = Due.at("window 10 2 1 9;stands 5 1;");
        planIs(x, 0, 1, 1, 10, 1);
        x.train(5, 0);
        x.begin(0);
        x.sell(0);
        x.waits(2);
        planIs(x, 0, 1, 1, 10, 1);
        Due.is("best(2)", x.best(2), 1);
    }

    /** Promise 22: "NONE: no WINDOWS, another what": -1, 0, 4, 5. */
    static void promise22What() {
        WindowSale x = Due.at("window 10 2 1 9;");
        bestIs(x, 0, 1, 1, 10, 2);
        Due.is("best(5)", x.best(5), -1);
        Due.is("best(MAX)", x.best(Integer.MAX_VALUE), -1);
        for (int what : BEYOND) {
            Due.is("best(" + what + ")", x.best(what), -1);
        }
        for (int what = -1; what <= 5; what++) {
            Due.is("no WINDOWS: best(" + what + ")", Due.at("stands 5 1;").best(what), -1);
        }
    }

    /** Promise 22: "the SECOND at which the last of them ends (0 without)". */
    static void promise22WithoutSales() {
        bestIs(Due.at("window 10 2 1 9;basket 0;"), 0, 1, 0, 0, 0);
        bestIs(Due.at("window 10 2 0 9;"), 0, 1, 0, 0, 0);
        bestIs(Due.at("window 10 3 1 9;stands 2 1;honest 0;shy 12;"), 0, 1, 0, 0, 0);
        bestIs(Due.at("window 10 3 1 9;stands 2 1;honest 1;shy 12;"), 0, 1, 1, 10, 3);
        bestIs(Due.at("window 10 9 1 9;stands 1 1;"), 0, 1, 1, 10, 9);
    }

    /** Promise 22, BEST PLAN: "with a full BASKET": 0, 1, 24. */
    static void promise22AFullBasket() {
        Due.is("0", Due.at("window 1 1 3 1;".repeat(10) + "basket 0;").best(2), 0);
        Due.is("1", Due.at("window 1 1 3 1;".repeat(10) + "basket 1;").best(2), 1);
        Due.is("24", Due.at(TEN).best(2), 24);
    }

    /** Promise 22, BEST PLAN: "of like ones the first WINDOW; UP ahead of DOWN"; one that gains more goes ahead. */
    static void promise22LikeBeginnings() {
        String even = "stands 2 1;walk 5;basket 1;";
        bestIs(Due.at("window 5 1 1 1;window 5 1 1 1;window 5 1 1 1;" + even), 0, 1, 1, 5, 1);
        bestIs(Due.at("window 5 1 1 1;window 6 1 1 1;window 6 1 1 1;" + even), 1, 1, 1, 6, 1);
        bestIs(Due.at("window 5 1 1 1;window 5 1 1 1;window 6 1 1 1;" + even), 2, 1, 1, 6, 1);
        String down = "stands 3 1;walk 1;basket 2;honest 0;shy 12;";
        bestIs(Due.at("window 5 1 1 1;window 9 1 1 1;" + down), 0, 1, 2, 14, 3);
        bestIs(Due.at("window 5 1 1 1;window 9 2 1 1;" + down), 0, 1, 1, 9, 3);
        // the dearer one is CLEAN for both trains only from above
        bestIs(Due.at("window 5 1 1 1;window 9 2 1 1;stands 2 1;stands 4 1;honest 0;shy 12;"), 1, 0, 2, 14, 4);
    }

    /** Promise 22, PLAN: "of like ways that with the fewest sales at the first WINDOW, then at the second". */
    static void promise22LikeWays() {
        WindowSale one = Due.at("window 5 1 1 1;window 5 1 1 1;window 5 1 1 1;stands 60 1;basket 1;");
        bestIs(one, 0, 1, 1, 5, 3);
        saleIs(one, 0, 2, 2, 0);
        WindowSale two = Due.at("window 5 1 1 1;window 5 1 1 1;window 5 1 1 1;stands 60 1;basket 2;");
        bestIs(two, 0, 1, 2, 10, 4);
        saleIs(two, 0, 1, 1, 0);
        saleIs(two, 1, 2, 3, 0);
        WindowSale three = Due.at("window 5 1 3 1;window 5 1 3 1;stands 60 1;basket 4;");
        saleIs(three, 0, 0, 0, 0);
        saleIs(three, 1, 1, 2, 0);
        WindowSale dear = Due.at("window 6 1 1 1;window 5 1 1 1;stands 60 1;basket 1;");
        saleIs(dear, 0, 0, 0, 0);
    }

    /** Promise 22, BEST PLAN: fruits sold are gone: the dearest WINDOWS have them. */
    static void promise22FruitsAreGone() {
        WindowSale x = Due.at("window 9 1 1 1;window 5 1 1 1;window 7 1 1 1;stands 60 1;basket 2;");
        bestIs(x, 0, 1, 2, 16, 4);
        saleIs(x, 0, 0, 0, 0);
        saleIs(x, 1, 2, 3, 0);
        saleIs(x, 2, -1, -1, -1);
    }

    /** Promise 22: of a STATION told behind one that has more WINDOWS; it begins at the last one, UP. */
    static void promise22BehindMoreWindows() {
        WindowSale x = Due.at(TEN);
        Due.is("24 sales", x.best(2), 24);
        Due.station(x, "window 1 1 0 1;window 9 1 3 1;stands 3 1;stands 60 1;honest 0;shy 12;");
        bestIs(x, 1, 1, 3, 27, 3);
        saleIs(x, 2, 1, 2, 0);
        saleIs(x, 3, -1, -1, -1);
        Due.is("sellers", x.sellers(), 1);
        Due.is("border", x.border(), 0);
    }

    /** Promise 22: the same, whatever was asked for ahead of it. */
    static void promise22AskedInAnyOrder() {
        WindowSale x = Due.at("window 9 1 1 1;window 5 1 1 1;window 7 1 1 1;stands 60 1;basket 2;");
        planIs(x, 0, 1, 1, 9, 1);
        earnsIs(x, 2, 0, 14);
        earnsIs(x, 3, 1, 5);
        Due.is("border", x.border(), 1);
        bestIs(x, 0, 1, 2, 16, 4);
        saleIs(x, 1, 2, 3, 0);
    }

    /** Promise 22, PLAN: a sale that gains nothing is none of the fewest. */
    static void promise22NoSaleForNothing() {
        bestIs(Due.at("window 10 2 3 9;stands 5 1;"), 0, 1, 3, 30, 6);
        bestIs(Due.at("window 10 2 3 9;stands 4 1;"), 0, 1, 2, 20, 4);
        bestIs(Due.at("window 10 2 3 9;stands 3 1;honest 0;shy 12;"), 0, 1, 1, 10, 2);
    }

    /** Promise 23: "Of its k-th sale (from 0)", "NONE: no such ones": -1, 0, 23, 24. */
    static void promise23SalesFrom0() {
        WindowSale x = Due.at(TEN);
        bestIs(x, 0, 1, 24, 24, 33);
        saleIs(x, 0, 2, 2, 0);
        saleIs(x, 23, 9, 32, 0);
        saleIs(x, 24, -1, -1, -1);
        saleIs(x, Integer.MAX_VALUE, -1, -1, -1);
        for (int k : BEYOND) {
            saleIs(x, k, -1, -1, -1);
        }
    }

    /** Promise 23: "NONE: no such ones": what -1, 0, 2, 3; no sales; no WINDOWS. */
    static void promise23What() {
        WindowSale x = Due.at("window 10 9 2 20;stands 5 1;honest 3;shy 3;");
        saleIs(x, 0, 0, 0, 1);
        Due.is("sale(0, 3)", x.sale(0, 3), -1);
        for (int what : BEYOND) {
            Due.is("sale(0, " + what + ")", x.sale(0, what), -1);
        }
        saleIs(Due.at("window 10 9 2 20;basket 0;"), 0, -1, -1, -1);
        saleIs(new WindowSale(), 0, -1, -1, -1);
    }

    /** Promise 23: a STATION's plan is not left in the next one. */
    static void promise23OfTheNewStation() {
        WindowSale x = Due.at(TEN);
        Due.is("24 sales", x.best(2), 24);
        Due.station(x, "");
        saleIs(x, 0, -1, -1, -1);
        Due.station(x, "window 7 1 1 1;");
        saleIs(x, 0, 0, 0, 0);
        saleIs(x, 1, -1, -1, -1);
    }

    /** Promise 24: "by which each GAINS COST at least": COST one below, at and above the GAIN. */
    static void promise24CostAtLeast() {
        Due.is("COST 9 of 10", Due.at("window 10 1 1 1;cost 9;").sellers(), 1);
        Due.is("COST 10 of 10", Due.at("window 10 1 1 1;cost 10;").sellers(), 1);
        Due.is("COST 11 of 10", Due.at("window 10 1 1 1;cost 11;").sellers(), 0);
        Due.is("COST 3 of 10/3", Due.at("window 10 2 1 1;stands 1 1;honest 4;shy 12;cost 3;").sellers(), 1);
        Due.is("COST 4 of 10/3", Due.at("window 10 2 1 1;stands 1 1;honest 4;shy 12;cost 4;").sellers(), 0);
        Due.is("COST 99 of 99", Due.at("window 99 1 1 1;cost 99;").sellers(), 1);
        Due.is("COST 99 of 98", Due.at("window 98 1 1 1;cost 99;").sellers(), 0);
    }

    /** Promise 24: "The most SELLERS": from none to as many as WINDOWS. */
    static void promise24TheMost() {
        String five = "window 5 1 1 1;".repeat(10) + "stands 60 1;";
        Due.is("COST 5", Due.at(five + "cost 5;").sellers(), 10);
        Due.is("COST 6", Due.at(five + "cost 6;").sellers(), 5);
        Due.is("COST 10", Due.at(five + "cost 10;").sellers(), 5);
        Due.is("COST 11", Due.at(five + "cost 11;").sellers(), 3);
        Due.is("COST 25", Due.at(five + "cost 25;").sellers(), 2);
        Due.is("COST 26", Due.at(five + "cost 26;").sellers(), 1);
        Due.is("COST 50", Due.at(five + "cost 50;").sellers(), 1);
        Due.is("COST 51", Due.at(five + "cost 51;").sellers(), 0);
        Due.is("COST 0 for nothing", Due.at(five + "cost 0;basket 0;").sellers(), 10);
        Due.is("COST 1 for nothing", Due.at(five + "basket 0;").sellers(), 0);
    }

    /** Promise 24: "NONE: no WINDOWS". */
    static void promise24NoWindows() {
        Due.is("no LINE", new WindowSale().sellers(), -1);
        Due.is("COST 0", Due.at("cost 0;").sellers(), -1);
        Due.is("one WINDOW", Due.at("window 1 1 0 1;cost 0;").sellers(), 1);
    }

    /** Promise 25, SELLERS: "as long as may be alike (the first ones 1 longer)". */
    static void promise25RowsAlike() {
        WindowSale x = Due.at(STAIRS);
        int[][] due = {{55}, {15, 40}, {10, 18, 27}, {6, 15, 15, 19}, {3, 7, 11, 15, 19}, {3, 7, 11, 15, 9, 10},
            {3, 7, 11, 7, 8, 9, 10}, {3, 7, 5, 6, 7, 8, 9, 10}, {3, 3, 4, 5, 6, 7, 8, 9, 10}, {1, 2, 3, 4, 5, 6, 7, 8, 9, 10}};
        for (int n = 1; n <= 10; n++) {
            for (int k = 0; k < n; k++) {
                earnsIs(x, n, k, due[n - 1][k]);
            }
        }
    }

    /** Promise 25: "no such ones": SELLERS 0, 1, 10, 11 of ten WINDOWS; k -1, 0, n - 1, n; what. */
    static void promise25NoSuchOnes() {
        WindowSale x = Due.at(STAIRS);
        Due.throwing("n 0", () -> x.earns(0, 0, 0));
        Due.throwing("n 11", () -> x.earns(11, 0, 0));
        Due.throwing("k 1 of 1", () -> x.earns(1, 1, 0));
        Due.throwing("k 10 of 10", () -> x.earns(10, 10, 0));
        Due.throwing("what 2", () -> x.earns(1, 0, 2));
        for (int k : BEYOND) {
            Due.throwing("n " + k, () -> x.earns(k, 0, 0));
            Due.throwing("k " + k, () -> x.earns(10, k, 0));
            Due.throwing("what " + k, () -> x.earns(1, 0, k));
        }
        Due.throwing("no WINDOWS", () -> new WindowSale().earns(1, 0, 0));
    }

    /** Promise 25, SELLERS: "each has a full BASKET". */
    static void promise25AFullBasketEach() {
        WindowSale x = Due.at(STAIRS + "basket 2;");
        earnsIs(x, 1, 0, 19);
        earnsIs(x, 2, 0, 9);
        earnsIs(x, 2, 1, 19);
        WindowSale none = Due.at(STAIRS + "basket 0;");
        earnsIs(none, 1, 0, 0);
    }

    /** Promise 25, SELLERS: "UP from the first and DOWN from the last of his row that end with it". */
    static void promise25EndsOfTheRow() {
        WindowSale x = Due.at("window 1 1 1 1;window 9 1 1 1;window 8 1 1 1;window 2 1 1 1;stands 2 1;walk 5;");
        earnsIs(x, 1, 0, 2);
        earnsIs(x, 2, 0, 9);
        earnsIs(x, 2, 1, 8);
        WindowSale y = Due.at("window 1 1 1 1;window 9 1 1 1;window 8 1 1 1;window 2 1 1 1;stands 2 1;walk 1;honest 0;shy 12;");
        earnsIs(y, 2, 0, 9);
        earnsIs(y, 2, 1, 8);
    }

    /** Promise 25: a row UP or DOWN, asked for first, and behind a longer one. */
    static void promise25AskedFirst() {
        String text = "window 1 1 1 1;window 9 1 1 1;window 8 1 1 1;window 2 1 1 1;stands 2 1;walk 5;";
        earnsIs(Due.at(text), 2, 1, 8);
        earnsIs(Due.at(text), 2, 0, 9);
        earnsIs(Due.at(text), 1, 0, 2);
        WindowSale x = Due.at(text);
        earnsIs(x, 4, 1, 9);
        earnsIs(x, 2, 0, 9);
        earnsIs(x, 3, 0, 9);
        earnsIs(x, 1, 0, 2);
    }

    /** Promise 26: "GAIN of all n SELLERS together": 0, 1, 10, 11 of ten WINDOWS; what. */
    static void promise26NoSuchOnes() {
        WindowSale x = Due.at(STAIRS + "basket 2;");
        curveIs(x, 1, 19);
        curveIs(x, 2, 28);
        curveIs(x, 10, 55);
        Due.throwing("n 0", () -> x.curve(0, 0));
        Due.throwing("n 11", () -> x.curve(11, 0));
        Due.throwing("what 2", () -> x.curve(1, 2));
        for (int k : BEYOND) {
            Due.throwing("n " + k, () -> x.curve(k, 0));
            Due.throwing("what " + k, () -> x.curve(1, k));
        }
        Due.throwing("no WINDOWS", () -> new WindowSale().curve(1, 0));
    }

    /** Promise 26: all together is a fraction in least terms, too. */
    static void promise26LeastTerms() {
        WindowSale x = Due.at("window 1 2 1 1;window 1 2 1 1;window 1 2 1 1;stands 1 1;honest 4;shy 12;");
        Due.fraction("curve(3)", () -> x.curve(3, 0), () -> x.curve(3, 1), 1, 1);
        Due.fraction("curve(2)", () -> x.curve(2, 0), () -> x.curve(2, 1), 2, 3);
        Due.fraction("earns(3, 0)", () -> x.earns(3, 0, 0), () -> x.earns(3, 0, 1), 1, 3);
    }

    /** Promise 27: "sooner (or at once with the other; the other comes never)". */
    static void promise27AtOnce() {
        WindowSale x = Due.at("window 1 1 1 1;".repeat(10) + "walk 5;");
        Due.is("share(0, 4): at once at 2", x.share(0, 4), 0b1111100111);
        Due.is("share(0, 5): never at once", x.share(0, 5), 0b1111000111);
        Due.is("share(4, 4)", x.share(4, 4), 0b1111110000);
        Due.is("share(5, 4)", x.share(5, 4), 0b1111100000);
        Due.is("share(4, 5)", x.share(4, 5), 0b1111010000);
        Due.is("share(0, 9)", x.share(0, 9), 0b0000011111);
        Due.is("share(9, 9)", x.share(9, 9), 0b1000000000);
        Due.is("share(9, 0)", x.share(9, 0), 0b1000000000);
        Due.is("share(0, 0)", x.share(0, 0), 0b1111111111);
    }

    /** Promise 27: "NONE: no such ones": WINDOWS -1, 0, 9, 10. */
    static void promise27NoSuchOnes() {
        WindowSale x = Due.at(STAIRS);
        Due.is("a 10", x.share(10, 0), -1);
        Due.is("b 10", x.share(0, 10), -1);
        for (int k : BEYOND) {
            Due.is("a " + k, x.share(k, 0), -1);
            Due.is("b " + k, x.share(0, k), -1);
        }
        Due.is("no WINDOWS", new WindowSale().share(0, 0), -1);
        Due.is("one WINDOW", Due.at("window 1 1 1 1;").share(0, 0), 1);
    }

    /** Promise 28, RACE: "Sales that end at a SECOND at the latest": one below, at it. */
    static void promise28EndsAtTheLatest() {
        WindowSale x = Due.at("window 10 2 2 20;window 20 4 1 30;");
        int[] first = {0, 0, 10, 10, 20, 20};
        int[] second = {0, 0, 0, 0, 20, 20};
        for (int last = 0; last < first.length; last++) {
            Due.is("first by " + last, x.race(0, 1, last, 0), first[last]);
            Due.is("second by " + last, x.race(0, 1, last, 1), second[last]);
        }
    }

    /** Promise 28, RACE: "sooner than the other, or with him, if he is the first one". */
    static void promise28WithHim() {
        String middle = "window 1 1 0 1;window 5 1 1 1;window 1 1 0 1;";
        WindowSale alike = Due.at(middle);
        Due.is("with him: first", alike.race(0, 2, 60, 0), 5);
        Due.is("with him: second", alike.race(0, 2, 60, 1), 0);
        WindowSale later = Due.at("window 1 1 1 1;window 5 1 1 1;window 1 1 0 1;");
        Due.is("a SECOND later: first", later.race(0, 2, 60, 0), 1);
        Due.is("a SECOND sooner: second", later.race(0, 2, 60, 1), 5);
        WindowSale sooner = Due.at("window 1 1 0 1;window 5 1 1 1;window 1 1 1 1;");
        Due.is("a SECOND sooner: first", sooner.race(0, 2, 60, 0), 5);
        Due.is("a SECOND later: second", sooner.race(0, 2, 60, 1), 1);
        Due.is("both begin there: first", alike.race(1, 1, 60, 0), 5);
        Due.is("both begin there: second", alike.race(1, 1, 60, 1), 0);
    }

    /** Promise 28, RACE: "OFTEN fruits (as many as he has)": BASKET below, at and above OFTEN. */
    static void promise28AsManyAsHeHas() {
        for (int basket = 0; basket <= 4; basket++) {
            WindowSale x = Due.at("window 5 1 3 1;basket " + basket + ";");
            Due.is("BASKET " + basket, x.race(0, 0, 60, 0), 5 * Math.min(basket, 3));
        }
    }

    /** Promise 28, RACE: who comes sooner without a fruit: the other, who comes later, sells nothing there either. */
    static void promise28SoonerWithoutFruits() {
        WindowSale x = Due.at("window 9 1 1 1;window 5 1 1 1;window 1 1 0 1;window 1 1 0 1;walk 5;basket 1;");
        Due.is("first", x.race(0, 3, 60, 0), 9);
        Due.is("second", x.race(0, 3, 60, 1), 0);
    }

    /** Promise 28, RACE: one behind the other they never meet. */
    static void promise28NeverMeet() {
        WindowSale x = Due.at(STAIRS);
        Due.is("first from 5", x.race(5, 4, 60, 0), 40);
        Due.is("second from 4", x.race(5, 4, 60, 1), 15);
        Due.is("first from 9", x.race(9, 0, 60, 0), 10);
        Due.is("second from 0", x.race(9, 0, 60, 1), 1);
        Due.is("first from 0, all ten", x.race(0, 0, 60, 0), 55);
        Due.is("second from 0 with him", x.race(0, 0, 60, 1), 0);
        Due.is("first from 9", x.race(9, 9, 60, 0), 10);
        Due.is("second from 9 with him, the other nine", x.race(9, 9, 60, 1), 45);
    }

    /** Promise 28: "a SECOND (0 to 60)", who, WINDOWS: "NONE: no such ones". */
    static void promise28NoSuchOnes() {
        WindowSale x = Due.at(STAIRS);
        Due.is("last 0", x.race(0, 9, 0, 0), 0);
        Due.is("last 60", x.race(0, 9, 60, 0), 15);
        Due.is("last 61", x.race(0, 9, 61, 0), -1);
        Due.is("who 2", x.race(0, 9, 0, 2), -1);
        Due.is("a 10", x.race(10, 9, 0, 0), -1);
        Due.is("b 10", x.race(0, 10, 0, 0), -1);
        for (int k : BEYOND) {
            Due.is("a " + k, x.race(k, 9, 0, 0), -1);
            Due.is("b " + k, x.race(0, k, 0, 0), -1);
            Due.is("last " + k, x.race(0, 9, k, 0), -1);
            Due.is("who " + k, x.race(0, 9, 0, k), -1);
        }
        Due.is("no WINDOWS", new WindowSale().race(0, 0, 0, 0), -1);
    }

    /** Promise 29: "(0 to WINDOWS ..) .. of like ones the least"; "0 without WINDOWS" is what a row of none gains. */
    static void promise29LikeOnes() {
        Due.is("no WINDOWS", new WindowSale().border(), 0);
        Due.is("one: 0 and 1 are alike", Due.at("window 5 1 1 1;").border(), 0);
        Due.is("two", Due.at("window 5 1 1 1;window 5 1 1 1;").border(), 1);
        Due.is("1 and 2 are alike", Due.at("window 5 1 1 1;window 9 1 0 1;window 5 1 1 1;").border(), 1);
        Due.is("none gains", Due.at("window 5 1 0 1;window 5 1 0 1;").border(), 0);
        Due.is("an empty BASKET", Due.at("window 5 1 1 1;window 5 1 1 1;basket 0;").border(), 0);
        Due.is("the last alone", Due.at("window 1 1 1 1;window 1 1 1 1;window 9 1 1 1;").border(), 2);
        Due.is("the first alone", Due.at("window 9 1 1 1;window 1 1 1 1;window 1 1 1 1;").border(), 1);
    }

    /** Promise 29: "the least apart": 1 less apart one further on. */
    static void promise29LeastApart() {
        Due.is("3 + 3 and 4: 2 apart", Due.at("window 3 1 1 1;window 3 1 1 1;window 4 1 1 1;").border(), 2);
        Due.is("4 and 3 + 3: 2 apart", Due.at("window 4 1 1 1;window 3 1 1 1;window 3 1 1 1;").border(), 1);
        Due.is("alike 1 apart on both sides", Due.at("window 2 1 1 1;window 1 1 1 1;window 2 1 1 1;").border(), 1);
        Due.is("the stairs: 28 and 27", Due.at(STAIRS).border(), 7);
    }

    /** Promise 30: "a coin of 1 to 999 pence": 0, 1, 999, 1000. */
    static void promise30CoinOf1To999() {
        WindowSale x = Due.at("window 99 1 3 1;window 1 1 3 1;");
        Due.is("1", x.change(0, 1), 1);
        Due.is("1 of PRICE 1", x.change(1, 1), 1000);
        Due.is("999", x.change(0, 999), 3702);
        Due.is("999 of PRICE 1", x.change(1, 999), 3996);
        Due.is("0", x.change(0, 0), -1);
        Due.is("1000", x.change(0, 1000), -1);
        Due.is("MAX", x.change(0, Integer.MAX_VALUE), -1);
        for (int coin : BEYOND) {
            Due.is("coin " + coin, x.change(0, coin), -1);
        }
    }

    /** Promise 30, CHANGE: fruits "as many as it pays": one below, at and above each. */
    static void promise30AsManyAsItPays() {
        WindowSale x = Due.at("window 99 1 3 1;");
        int[][] due = {{98, 98}, {99, 1000}, {100, 1001}, {197, 1098}, {198, 2000}, {199, 2001}, {296, 2098}, {297, 3000}, {298, 3001}};
        for (int[] one : due) {
            Due.is("change(0, " + one[0] + ")", x.change(0, one[0]), one[1]);
        }
    }

    /** Promise 30, CHANGE: fruits "as the WINDOW buys yet": OFTEN 0 to 3, then what is left of it. */
    static void promise30AsTheWindowBuysYet() {
        for (int often = 0; often <= 3; often++) {
            WindowSale x = Due.at("window 10 1 " + often + " 1;");
            Due.is("OFTEN " + often, x.change(0, 100), 1000 * often + 100 - 10 * often);
            x.train(60, 0);
            x.begin(0);
            for (int left = often - 1; left >= 0; left--) {
                x.sell(0);
                Due.is("left of " + often, x.change(0, 100), 1000 * left + 100 - 10 * left);
            }
        }
    }

    /** Promise 30, CHANGE: fruits "as there are: a full BASKET, if he can't act now". */
    static void promise30AsThereAre() {
        WindowSale x = Due.at("window 10 1 1 1;window 10 1 3 1;basket 2;");
        Due.is("no train", x.change(1, 100), 2080);
        x.train(9, 0);
        Due.is("not begun", x.change(1, 100), 2080);
        x.begin(0);
        Due.is("begun", x.change(1, 100), 2080);
        x.sell(0);
        Due.is("one is left", x.change(1, 100), 1090);
        x.walk(1);
        x.sell(0);
        Due.is("none is left", x.change(1, 100), 100);
        x.waits(9);
        Due.is("moved: a full one, and 2 are bought yet", x.change(1, 100), 2080);
        Due.is("an empty BASKET", Due.at("window 10 1 1 1;basket 0;").change(0, 100), 100);
    }

    /** Promise 30: "NONE: no such ones": WINDOWS -1, 0, 1, 2 of two. */
    static void promise30NoSuchWindow() {
        WindowSale x = Due.at("window 10 1 1 1;window 10 1 1 1;");
        Due.is("WINDOW 1", x.change(1, 10), 1000);
        Due.is("WINDOW 2", x.change(2, 10), -1);
        for (int w : BEYOND) {
            Due.is("WINDOW " + w, x.change(w, 10), -1);
        }
        Due.is("no WINDOWS", new WindowSale().change(0, 10), -1);
    }

    /** Promise 34: "NONE: not as told (2 bytes)": 0, 1, 2, 3 bytes, and the tape is empty then. */
    static void promise34TwoBytes() {
        WindowSale x = Due.at("window 10 1 1 1;");
        for (int many = 0; many <= 3; many++) {
            Due.tape(x, new byte[many]);
            Due.is(many + " bytes", x.stood(), many == 2 ? 0 : -1);
            Due.is("the tape behind " + many, x.count(11), 0);
        }
        for (int k = 0; k < 47; k++) {
            x.feed(0, 0, 0, 0, 0);
        }
        Due.is("940 bytes", x.stood(), -1);
        Due.is("the tape behind 940", x.count(11), 0);
    }

    /** Promise 34, STOOD: "sales .. that end at their SECONDS at the latest": one below, at it, one above. */
    static void promise34EndAtTheLatest() {
        WindowSale x = Due.at("window 10 2 2 1;stands 1 1;stands 2 1;stands 3 1;stands 4 1;stands 5 1;stands 60 1;honest 12;");
        Due.is("0", Due.stood(x, 0), 0b000001);
        Due.is("10", Due.stood(x, 10), 0b000110);
        Due.is("20", Due.stood(x, 20), 0b111000);
        for (int pence : new int[] {1, 9, 11, 19, 21, 30, 256, 266, 65535}) {
            Due.is(pence + " pence", Due.stood(x, pence), 0);
        }
    }

    /** Promise 34, STOOD: "pence as two bytes, the higher first": 200, 255, 256, 2376. */
    static void promise34TheHigherFirst() {
        Due.is("200", Due.stood(Due.at("window 50 1 3 1;window 50 1 1 1;stands 60 1;"), 200), 1);
        Due.is("255", Due.stood(Due.at("window 85 1 3 1;stands 60 1;"), 255), 1);
        WindowSale x = Due.at("window 64 1 3 1;window 64 1 1 1;stands 60 1;");
        Due.is("256", Due.stood(x, 256), 1);
        Due.is("1: the bytes the other way", Due.stood(x, 1), 0);
        Due.is("0: the low byte alone", Due.stood(x, 0), 0);
        Due.is("2376", Due.stood(Due.at("window 99 1 3 1;".repeat(8) + "stands 60 1;basket 24;"), 2376), 1);
    }

    /** Promise 34, STOOD without sales: 0 pence by all 'stands', without WINDOWS too. */
    static void promise34WithoutSales() {
        Due.is("an empty BASKET", Due.stood(Due.at("window 9 1 1 1;basket 0;stands 3 1;stands 4 1;"), 0), 0b11);
        Due.is("no WINDOWS", Due.stood(Due.at("stands 3 1;stands 4 1;"), 0), 0b11);
        Due.is("no WINDOWS, 1", Due.stood(Due.at("stands 3 1;stands 4 1;"), 1), 0);
        Due.is("no LINE", Due.stood(new WindowSale(), 0), 1);
    }

    /** A seed whose second draw, of 12, is this one: the first one tells S. */
    private static int seedBehindS(int due) {
        for (int seed = 0; seed < 100_000; seed++) {
            int x = (seed * 1103515245 + 12345) * 1103515245 + 12345;
            if ((x >>> 8) % 12 == due) {
                return seed;
            }
        }
        throw new IllegalStateException("no seed draws so");
    }

    /** Promise 36: "n (1 to 60) trains", "NONE: not as told, no WINDOWS": 0, 1, 60, 61. */
    static void promise36TrainsOf1To60() {
        WindowSale x = Due.at("window 7 1 2 9;stands 60 1;");
        Due.is("1", x.drawn(1, 0), 14);
        Due.is("60", x.drawn(60, 0), 840);
        Due.is("0", x.drawn(0, 0), -1);
        Due.is("61", x.drawn(61, 0), -1);
        Due.is("MAX", x.drawn(Integer.MAX_VALUE, 0), -1);
        for (int n : BEYOND) {
            Due.is("n " + n, x.drawn(n, 0), -1);
        }
        Due.is("no WINDOWS", Due.at("stands 60 1;").drawn(1, 0), -1);
        Due.is("no sales", Due.at("window 7 1 2 9;basket 0;").drawn(60, 0), 0);
    }

    /** Promise 36, DRAWN: "a draw of all WEIGHTS: S": each draw, at both ends of each WEIGHT. */
    static void promise36DrawOfAllWeights() {
        WindowSale x = Due.at("window 10 1 3 9;stands 1 1;stands 2 2;stands 3 1;honest 12;");
        int[] due = {10, 20, 20, 30};
        for (int draw = 0; draw < 4; draw++) {
            int seed = Due.seedOf(4, draw);
            Due.is("draw " + draw, x.drawn(1, seed), due[draw]);
            Due.is("luckiest of draw " + draw, x.luckiest(1, seed), due[draw]);
        }
        int seed = Due.seedOf(4, 0, 3, 2, 0, 1);
        Due.is("five trains", x.drawn(5, seed), 90);
        Due.is("the luckiest", x.luckiest(5, seed), 30);
        Due.is("the first alone", x.luckiest(1, seed), 10);
        Due.is("the last two", x.drawn(3, seed), 60);
    }

    /** Promise 36, DRAWN: "sales .. that begin below S": one that begins at S is none and draws none. */
    static void promise36BeginBelowS() {
        WindowSale x = Due.at("window 10 2 2 20;stands 2 1;stands 9 1;honest 6;shy 12;");
        Due.is("two sales", x.best(2), 2);
        int seed = Due.seedOf(2, 0, 0, 1, 0, 1, 1);
        Due.is("S 2", x.drawn(1, seed), 10);
        Due.is("S 2, 2", x.drawn(2, seed), 20);
        Due.is("S 2, 2, 9", x.drawn(3, seed), 40);
        Due.is("all six", x.drawn(6, seed), 90);
    }

    /** Promise 36, DRAWN: a late FRUIT is paid by "a draw of 12 below HONEST": HONEST below, at, above the draw. */
    static void promise36DrawBelowHonest() {
        for (int draw = 0; draw < 12; draw++) {
            int seed = seedBehindS(draw);
            for (int honest = Math.max(1, draw - 1); honest <= draw + 1; honest++) {
                WindowSale x = Due.at("window 10 5 1 9;stands 4 1;shy 12;honest " + honest + ";");
                Due.is("draw " + draw + ", HONEST " + honest, x.drawn(1, seed), draw < honest ? 10 : 0);
            }
        }
    }

    /** Promise 36, DRAWN: a COIN comes by "a draw of 12 .. SHY or above", late or not: SHY below, at, above the draw. */
    static void promise36DrawShyOrAbove() {
        for (int draw = 0; draw < 12; draw++) {
            int seed = seedBehindS(draw);
            for (int shy = Math.max(0, draw - 1); shy <= Math.min(11, draw + 1); shy++) {
                WindowSale x = Due.at("window 10 5 1 9;stands 4 1;honest 0;shy " + shy + ";");
                Due.is("COIN", x.sale(0, 2), 1);
                Due.is("draw " + draw + ", SHY " + shy, x.drawn(1, seed), draw >= shy ? 10 : 0);
            }
        }
    }

    /** Promise 36, DRAWN: "x * 1103515245 + 12345 (an int, wrapping)", "(x >>> 8) % n": any seed. */
    static void promise36AnySeed() {
        WindowSale x = Due.at("window 10 1 3 9;stands 1 1;stands 2 2;stands 3 4;honest 12;");
        for (int seed : new int[] {0, -1, 1, Integer.MIN_VALUE, Integer.MAX_VALUE, 987654321, -1234567}) {
            long step = seed & 0xffffffffL;
            int sum = 0;
            int most = 0;
            for (int k = 0; k < 10; k++) {
                step = step * 1103515245L + 12345L & 0xffffffffL;
                long draw = (step >> 8) % 7;
                int pence = draw < 1 ? 10 : draw < 3 ? 20 : 30;
                sum += pence;
                most = Math.max(most, pence);
            }
            Due.is("ten by " + seed, x.drawn(10, seed), sum);
            Due.is("the luckiest by " + seed, x.luckiest(10, seed), most);
        }
    }

    /** Promise 36: "(all stays as it is)": the train that stands there, its draws and what was sold. */
    static void promise36AllStays() {
        int seed = Due.seedOf(12, 6, 5);
        WindowSale x = Due.at("window 7 1 3 9;shy 6;");
        x.train(9, seed);
        x.begin(0);
        x.sell(1);
        x.drawn(60, 5);
        x.luckiest(60, 5);
        int[] due = {1, 1, 0, 11, 7, 1, 1, 0, 0, 0, 0};
        for (int k = 0; k < due.length; k++) {
            Due.is("now(" + k + ")", x.now(k), due[k]);
        }
        Due.is("bought", () -> x.window(0, 4), 1);
        Due.is("the next draw", x.sell(1), 0);
        Due.is("is the train's own", x.latest(), 5);
        Due.is("undo", x.undo(), 3);
    }

    /** Promise 37: "NONE: likewise": 0, 1, 60, 61, no WINDOWS. */
    static void promise37TrainsOf1To60() {
        WindowSale x = Due.at("window 7 1 2 9;stands 60 1;");
        Due.is("1", x.luckiest(1, 0), 14);
        Due.is("60", x.luckiest(60, 0), 14);
        Due.is("0", x.luckiest(0, 0), -1);
        Due.is("61", x.luckiest(61, 0), -1);
        Due.is("MAX", x.luckiest(Integer.MAX_VALUE, 0), -1);
        for (int n : BEYOND) {
            Due.is("n " + n, x.luckiest(n, 0), -1);
        }
        Due.is("no WINDOWS", Due.at("stands 60 1;").luckiest(1, 0), -1);
        Due.is("no sales", Due.at("window 7 1 2 9;basket 0;").luckiest(60, 0), 0);
    }
}
