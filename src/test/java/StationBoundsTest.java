/** Bounds of the tape and the STATION, promises 1 to 7 and 44: on them, one below, one above. */
public final class StationBoundsTest {
    private static final String WINDOW = "window 1 1 1 1;";
    private static final String SIX =
        "stands 10 1;stands 20 2;stands 30 3;stands 40 4;stands 50 5;stands 60 9;";
    private static final int[] BEYOND = {Integer.MIN_VALUE, -1000, -2, -1};

    public static void main(String[] args) {
        Due.promises(StationBoundsTest.class);
    }

    /** Promise 1: "An empty STATION": no WINDOWS, and what holds without a LINE. */
    static void promise01AnEmptyStation() {
        WindowSale x = new WindowSale();
        int[] due = {0, 1, 1, 1, 12, 6, 6, 0, 6, 3, 1};
        for (int k = 0; k < due.length; k++) {
            Due.is("count(" + k + ")", x.count(k), due[k]);
        }
        Due.throwing("window(0, 0)", () -> x.window(0, 0));
        Due.is("stand(0, 0)", x.stand(0, 0), 10);
        Due.is("stand(0, 1)", x.stand(0, 1), 1);
        Due.is("undo()", x.undo(), -1);
        Due.is("said(NONE)", x.said(-1), -1);
        Due.is("restore(0)", x.restore(0), false);
    }

    /** Promise 1: "an empty tape". */
    static void promise01AnEmptyTape() {
        WindowSale x = new WindowSale();
        Due.is("count(11)", x.count(11), 0);
        Due.is("end(0)", x.end(0), true);
        Due.is("end(1)", x.end(1), false);
        Due.is("station()", x.station(), 0);
    }

    /** Promise 2: "NONE, and none come, if it would have more than 940": onto 919, 920, 921. */
    static void promise02UpTo940Bytes() {
        for (int length = 919; length <= 921; length++) {
            WindowSale x = new WindowSale();
            for (int k = 1; k <= 47; k++) {
                Due.is("feed " + k, x.feed(0, 0, 0, 0, 0), 20 * k);
            }
            Due.is("feed onto 940", x.feed(0, 0, 0, 0, 0), -1);
            Due.is("none came onto 940", x.count(11), 940);
            x.end(length);
            int due = length <= 920 ? length + 20 : -1;
            Due.is("feed onto " + length, x.feed(0, 0, 0, 0, 0), due);
            Due.is("count(11) behind " + length, x.count(11), Math.max(length, due));
        }
    }

    /** Promise 2: "of each number the highest first": a byte above 127 too, and none left of the one ahead. */
    static void promise02HighestFirst() {
        WindowSale x = Due.at(WINDOW + "stands 60 1;");
        x.feed(0x776f7264, 0x20313b20, -1, 0, 0x77616c6b);
        x.end(0);
        x.feed(0x77616c6b, 0x20343b63, 0x6f737420, 0x39393b62, 0x61736b65);
        x.feed(0x74203234, 0x3b202020, 0x20202020, 0x20202020, 0x20202020);
        Due.is("two feeds", x.station(), 3);
        Due.is("walk 4", x.count(3), 4);
        Due.is("cost 99", x.count(10), 99);
        Due.is("basket 24", x.count(4), 24);
        x.feed(0x80ffffff, Integer.MIN_VALUE, -1, 0, 0);
        Due.is("0x80 is no TOKEN", x.station(), -1);
    }

    /** Promise 3: "The tape has its first n bytes alone": what comes next stands behind them. */
    static void promise03FirstBytesAlone() {
        WindowSale x = new WindowSale();
        Due.tape(x, "walk 2;cost 3;xxxxxx");
        Due.is("end(14)", x.end(14), true);
        Due.is("count(11)", x.count(11), 14);
        Due.tape(x, "shy 4;");
        Due.is("behind them", x.station(), 3);
        Due.is("cost 3", x.count(10), 3);
        Due.is("shy 4", x.count(6), 4);
    }

    /** Promise 3: "false, if it has not so many, or n is below 0": at 20 bytes 19, 20, 21; -1, 0. */
    static void promise03NotSoMany() {
        WindowSale x = new WindowSale();
        x.feed(1, 2, 3, 4, 5);
        Due.is("end(21)", x.end(21), false);
        Due.is("end(MAX)", x.end(Integer.MAX_VALUE), false);
        Due.is("end(-1)", x.end(-1), false);
        Due.is("end(MIN)", x.end(Integer.MIN_VALUE), false);
        Due.is("it stays", x.count(11), 20);
        Due.is("end(20)", x.end(20), true);
        Due.is("end(19)", x.end(19), true);
        Due.is("end(20) of 19", x.end(20), false);
        Due.is("end(0)", x.end(0), true);
        Due.is("end(0) of 0", x.end(0), true);
        Due.is("end(1) of 0", x.end(1), false);
    }

    /** Promise 4: "how many LINES": none, and all that there may be. */
    static void promise04HowManyLines() {
        Texts.station("", 0);
        Texts.station(" \n ", 0);
        Texts.station("walk 1;", 1);
        Texts.station(WINDOW.repeat(10) + SIX + "walk 1;basket 1;honest 1;shy 1;whistle 1;again 1;runner 1;cost 1;", 24);
    }

    /** Promise 4, STATION: { LINE ; }: no LINE is empty, none goes without its ;. */
    static void promise04EachLineHasItsEnd() {
        Texts.noStation(";", 0, 1);
        Texts.noStation("walk 1;;", 7, 1);
        Texts.noStation("walk 1 cost 1;", 7, 1);
        Texts.noStation("walk 1;cost 1", 13, 1);
    }

    private static void numberOf(String ahead, int least, int greatest, String behind) {
        Texts.station(ahead + least + behind, 1);
        Texts.station(ahead + greatest + behind, 1);
        Texts.noStation(ahead + (greatest + 1) + behind, ahead.length(), 2);
        Texts.noStation(ahead + "999" + behind, ahead.length(), 2);
        if (least > 0) {
            Texts.noStation(ahead + (least - 1) + behind, ahead.length(), 2);
        }
    }

    /** Promise 4, STATION: PRICE "1 to 99". */
    static void promise04PriceOf1To99() {
        numberOf("window ", 1, 99, " 1 1 1;");
    }

    /** Promise 4, STATION: TAKES "1 to 9 SECONDS". */
    static void promise04TakesOf1To9() {
        numberOf("window 1 ", 1, 9, " 1 1;");
    }

    /** Promise 4, STATION: OFTEN "0 to 3". */
    static void promise04OftenOf0To3() {
        numberOf("window 1 1 ", 0, 3, " 1;");
    }

    /** Promise 4, STATION: WORTH "0 to 99". */
    static void promise04WorthOf0To99() {
        numberOf("window 1 1 1 ", 0, 99, ";");
    }

    /** Promise 4, STATION: 'window' has four NUMBERS: not three, not five. */
    static void promise04WindowOfFourNumbers() {
        Texts.noStation("window 1 1 1;", 12, 1);
        Texts.noStation("window;", 6, 1);
        Texts.noStation("window 1 1 1 1 1;", 15, 1);
    }

    /** Promise 4, STATION: 'stands' SECONDS "1 to 60". */
    static void promise04SecondsOf1To60() {
        numberOf("stands ", 1, 60, " 1;");
    }

    /** Promise 4, STATION: 'stands' WEIGHT "1 to 9". */
    static void promise04WeightOf1To9() {
        numberOf("stands 1 ", 1, 9, ";");
    }

    /** Promise 4, STATION: 'stands' has two NUMBERS: not one, not three. */
    static void promise04StandsOfTwoNumbers() {
        Texts.noStation("stands 1;", 8, 1);
        Texts.noStation("stands 1 1 1;", 11, 1);
    }

    /** Promise 4, STATION: "each SECONDS once": the same WEIGHT may come again. */
    static void promise04EachSecondsOnce() {
        Texts.station("stands 5 1;stands 6 1;stands 4 1;", 3);
        Texts.noStation("stands 5 1;stands 6 1;stands 5 2;", 29, 3);
        Texts.noStation("stands 5 1;stands 6 1;stands 6 2;", 29, 3);
        Texts.noStation("stands 5 1;stands 005 1;", 18, 3);
    }

    /** Promise 4, STATION: 'walk' "1 to 5 SECONDS; 1 without". */
    static void promise04WalkOf1To5() {
        settingIs("walk", 3, 1, 5, 1);
    }

    /** Promise 4, STATION: 'basket' "0 to 24; 12 without". */
    static void promise04BasketOf0To24() {
        settingIs("basket", 4, 0, 24, 12);
    }

    /** Promise 4, STATION: 'honest' "0 to 12; 6 without". */
    static void promise04HonestOf0To12() {
        settingIs("honest", 5, 0, 12, 6);
    }

    /** Promise 4, STATION: 'shy' "0 to 12; 6 without". */
    static void promise04ShyOf0To12() {
        settingIs("shy", 6, 0, 12, 6);
    }

    /** Promise 4, STATION: 'whistle' "0 to 30; 0 without". */
    static void promise04WhistleOf0To30() {
        settingIs("whistle", 7, 0, 30, 0);
    }

    /** Promise 4, STATION: 'again' "0 to 11; 6 without". */
    static void promise04AgainOf0To11() {
        settingIs("again", 8, 0, 11, 6);
    }

    /** Promise 4, STATION: 'runner' "0 to 12; 3 without". */
    static void promise04RunnerOf0To12() {
        settingIs("runner", 9, 0, 12, 3);
    }

    /** Promise 4, STATION: 'cost' "0 to 99; 1 without". */
    static void promise04CostOf0To99() {
        settingIs("cost", 10, 0, 99, 1);
    }

    /** Its bounds, what holds without it, and that it comes once with one NUMBER. */
    private static void settingIs(String word, int what, int least, int greatest, int without) {
        numberOf(word + " ", least, greatest, ";");
        int length = word.length();
        Texts.noStation(word + ";", length, 1);
        Texts.noStation(word + " 1 1;", length + 3, 1);
        Texts.noStation(word + " 1;" + word + " 1;", length + 3, 3);
        WindowSale x = new WindowSale();
        Due.station(x, word + " " + greatest + ";");
        Due.is(word + " greatest", x.count(what), greatest);
        Due.station(x, word + " " + least + ";");
        Due.is(word + " least", x.count(what), least);
        Due.station(x, word + " " + greatest + ";");
        Due.station(x, "");
        Due.is("without " + word, x.count(what), without);
    }

    /** Promise 4, STATION: "10 WINDOWS .. at most": 9, 10, 11, other LINES among them. */
    static void promise04TenWindows() {
        Texts.station(WINDOW.repeat(9), 9);
        Texts.station(WINDOW.repeat(10), 10);
        Texts.noStation(WINDOW.repeat(11), 150, 4);
        Texts.station(WINDOW.repeat(9) + "walk 1;" + WINDOW + "shy 1;", 12);
        Texts.noStation(WINDOW.repeat(10) + "walk 1;" + WINDOW, 157, 4);
    }

    /** Promise 4, STATION: "6 'stands' at most": 5, 6, 7. */
    static void promise04SixStands() {
        Texts.station(SIX.substring(0, 60), 5);
        Texts.station(SIX, 6);
        Texts.noStation(SIX + "stands 5 1;", 72, 4);
        Texts.noStation(SIX + "stands 10 1;", 72, 4);
    }

    /** Promise 4: with a FAULT "it stays": STATION, train, pence, SENTENCE and what can be undone. */
    static void promise04StaysWithAFault() {
        WindowSale x = Due.at(WINDOW + "walk 3;");
        x.train(9, 1);
        x.begin(0);
        x.sell(0);
        Due.sentence(x, "not open");
        Due.is("a FAULT at the last byte", Due.station(x, WINDOW + WINDOW + "walk 2"), -37);
        Due.is("WINDOWS", x.count(0), 1);
        Due.is("walk", x.count(3), 3);
        Due.is("pence", x.now(4), 1);
        Due.is("SECOND", x.now(1), 1);
        Due.is("SENTENCE", x.said(-1), 1);
        Due.is("undo", x.undo(), 2);
    }

    /** Promise 4: "A new STATION: no train, no pence, no SENTENCE", an empty one or the same one too. */
    static void promise04NewStation() {
        for (String text : new String[] {"", WINDOW, WINDOW + WINDOW}) {
            WindowSale x = Due.at(WINDOW);
            x.train(9, 1);
            x.begin(0);
            x.sell(0);
            Due.sentence(x, "not open");
            Due.station(x, text);
            Due.is("no train stands there", x.now(0), 0);
            Due.is("none has come", x.now(1), -1);
            Due.is("not begun", x.now(2), -1);
            Due.is("no fruits", x.now(3), 0);
            Due.is("no pence", x.now(4), 0);
            Due.is("no trains", x.now(5), 0);
            for (int what = 6; what <= 10; what++) {
                Due.is("no sales: now(" + what + ")", x.now(what), 0);
            }
            for (int w = 0; w < x.count(0); w++) {
                int window = w;
                Due.is("nothing bought", () -> x.window(window, 4), 0);
                Due.is("nothing bought in all", () -> x.window(window, 5), 0);
            }
            Due.is("no SENTENCE", x.said(-1), -1);
            Due.is("no sale", x.latest(), 0);
            Due.is("nothing can be undone", x.undo(), -1);
            Due.is("no whistle", x.heard(), -1);
            Due.is("a train may come", x.train(1, 1), 0);
        }
    }

    /** Promise 6: "no such ones": WINDOWS -1, 0, 9, 10 of ten. */
    static void promise06WindowsFrom0() {
        WindowSale x = Due.at(WINDOW.repeat(9) + "window 99 9 3 98;");
        Due.is("window(0, 0)", () -> x.window(0, 0), 1);
        Due.is("window(9, 0)", () -> x.window(9, 0), 99);
        Due.throwing("window(10, 0)", () -> x.window(10, 0));
        Due.throwing("window(MAX, 0)", () -> x.window(Integer.MAX_VALUE, 0));
        for (int w : BEYOND) {
            Due.throwing("window(" + w + ", 0)", () -> x.window(w, 0));
        }
        WindowSale y = Due.at("walk 1;");
        Due.throwing("window(0, 0) of none", () -> y.window(0, 0));
    }

    /** Promise 6: "no such ones": what -1, 0 to 5, 6. */
    static void promise06WhatOfAWindow() {
        WindowSale x = Due.at("window 99 9 3 98;");
        int[] due = {99, 9, 3, 98, 0, 0};
        for (int k = 0; k < due.length; k++) {
            int what = k;
            Due.is("window(0, " + k + ")", () -> x.window(0, what), due[k]);
        }
        Due.throwing("window(0, 6)", () -> x.window(0, 6));
        Due.throwing("window(0, MAX)", () -> x.window(0, Integer.MAX_VALUE));
        for (int what : BEYOND) {
            Due.throwing("window(0, " + what + ")", () -> x.window(0, what));
        }
    }

    /** Promise 6: "how much it bought of this train, 5 how much in all": the next train begins at 0. */
    static void promise06BoughtOfThisTrain() {
        WindowSale x = Due.at("window 5 1 3 9;stands 60 1;");
        for (int train = 0; train < 3; train++) {
            x.train(2, 0);
            Due.is("of a new train", () -> x.window(0, 4), 0);
            x.begin(0);
            x.sell(0);
            x.sell(0);
            Due.is("of this train", () -> x.window(0, 4), 2);
            int all = 2 * train + 2;
            Due.is("in all", () -> x.window(0, 5), all);
        }
    }

    /** Promise 7: "NONE: no such ones": 'stands' -1, 0, 5, 6 of six. */
    static void promise07StandsFrom0() {
        WindowSale x = Due.at(SIX);
        int[] weights = {1, 2, 3, 4, 5, 9};
        for (int k = 0; k < 6; k++) {
            Due.is("stand(" + k + ", 0)", x.stand(k, 0), 10 * (k + 1));
            Due.is("stand(" + k + ", 1)", x.stand(k, 1), weights[k]);
        }
        Due.is("stand(6, 0)", x.stand(6, 0), -1);
        Due.is("stand(MAX, 0)", x.stand(Integer.MAX_VALUE, 0), -1);
        for (int k : BEYOND) {
            Due.is("stand(" + k + ", 0)", x.stand(k, 0), -1);
        }
    }

    /** Promise 7: "NONE: no such ones": what -1, 0, 1, 2. */
    static void promise07WhatOfAStand() {
        WindowSale x = Due.at("stands 60 9;");
        Due.is("stand(0, 0)", x.stand(0, 0), 60);
        Due.is("stand(0, 1)", x.stand(0, 1), 9);
        Due.is("stand(0, 2)", x.stand(0, 2), -1);
        for (int what : BEYOND) {
            Due.is("stand(0, " + what + ")", x.stand(0, what), -1);
        }
    }

    /** Promise 7: "(without any told there is one)": 10 SECONDS, WEIGHT 1, and no second one. */
    static void promise07WithoutAnyTold() {
        WindowSale x = Due.at(SIX);
        Due.station(x, WINDOW);
        Due.is("stand(0, 0)", x.stand(0, 0), 10);
        Due.is("stand(0, 1)", x.stand(0, 1), 1);
        Due.is("stand(1, 0)", x.stand(1, 0), -1);
        Due.is("count(1)", x.count(1), 1);
        Due.is("count(2)", x.count(2), 1);
        Due.station(x, "stands 9 2;");
        Due.is("one told", x.stand(0, 0), 9);
        Due.is("one told is all", x.stand(1, 0), -1);
    }

    /** Promise 44: "NONE for another what": -1, 0, 11, 12. */
    static void promise44WhatIsCounted() {
        WindowSale x = Due.at(WINDOW);
        Due.is("count(0)", x.count(0), 1);
        Due.is("count(11)", x.count(11), 0);
        Due.is("count(12)", x.count(12), -1);
        Due.is("count(MAX)", x.count(Integer.MAX_VALUE), -1);
        for (int what : BEYOND) {
            Due.is("count(" + what + ")", x.count(what), -1);
        }
    }

    /** Promise 44: each number has its own place. */
    static void promise44EachInItsPlace() {
        WindowSale x = Due.at(WINDOW.repeat(10) + SIX
            + "walk 5;basket 24;honest 12;shy 11;whistle 30;again 10;runner 9;cost 99;");
        int[] due = {10, 6, 24, 5, 24, 12, 11, 30, 10, 9, 99, 0};
        for (int k = 0; k < due.length; k++) {
            Due.is("count(" + k + ")", x.count(k), due[k]);
        }
        x.feed(0, 0, 0, 0, 0);
        Due.is("count(11) of 20", x.count(11), 20);
    }

    /** Promise 44: "2 all WEIGHTS": 1 without 'stands', 54 at most. */
    static void promise44AllWeights() {
        Due.is("none told", new WindowSale().count(2), 1);
        Due.is("one of 9", Due.at("stands 1 9;").count(2), 9);
        Due.is("six of 9", Due.at("stands 1 9;stands 2 9;stands 3 9;stands 4 9;stands 5 9;stands 6 9;").count(2), 54);
    }
}
