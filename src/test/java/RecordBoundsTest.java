/** Bounds of LOG, SENTENCE and images, promises 38 to 43, and of calls that throw. */
public final class RecordBoundsTest {
    private static final String TWO = "window 7 2 2 9;window 5 3 1 9;walk 2;basket 3;honest 12;shy 0;";
    private static final String TEN = "window 5 1 1 9;".repeat(10);
    private static final int[] BEYOND = {Integer.MIN_VALUE, -1000, -2, -1};

    public static void main(String[] args) {
        Due.promises(RecordBoundsTest.class);
    }

    private static void loggedIs(String when, WindowSale x, int... due) {
        for (int k = 0; k < 4; k++) {
            Due.is(when + ": logged(" + k + ")", x.logged(k), due[k]);
        }
    }

    /** Promise 38: "-1000: another lives (the tape stays)": -1, 0, 1, 2. */
    static void promise38AnotherLives() {
        WindowSale x = Due.at(TWO);
        Due.tape(x, "train 9;at 0;");
        Due.is("lives 2", x.log(2), -1000);
        Due.is("lives MAX", x.log(Integer.MAX_VALUE), -1000);
        for (int lives : BEYOND) {
            Due.is("lives " + lives, x.log(lives), -1000);
        }
        Due.is("the tape stays", x.count(11), 13);
        Due.is("nothing is logged", x.logged(0), -1);
        Due.is("nothing is lived", x.now(5), 0);
        Due.is("lives 1", x.log(1), -1);
        Due.is("the tape is empty", x.count(11), 0);
        Due.is("it is lived", x.now(2), 0);
        Due.is("an empty one: lives 0", x.log(0), -1);
    }

    /** Promise 38: "NONE: none": an empty LOG, one of blanks. */
    static void promise38AnEmptyLog() {
        Texts.log("", -1);
        Texts.log(" \n ", -1);
        Texts.noLog(";", 0, 1);
        WindowSale x = Due.at(TWO);
        Due.is("empty", Due.log(x, "", 0), -1);
        loggedIs("empty", x, 0, 0, 0, 0);
    }

    /** Promise 38, LOG: "{ LINE ; }, 40 at most": 39, 40, 41. */
    static void promise38FortyLines() {
        WindowSale x = Due.at(TWO);
        for (int lines = 39; lines <= 40; lines++) {
            Due.is(lines + " LINES", Due.log(x, "train 0;".repeat(lines), 0), -1);
            loggedIs(lines + " LINES", x, 0, lines, 0, 3);
        }
        Texts.noLog("train 0;".repeat(41), 320, 4);
        Texts.noLog("up;".repeat(40) + "waits 1;", 120, 4);
        Due.is("the last of 40 is WRONG", Due.log(x, "train 0;".repeat(39) + "up;", 0), 39);
        loggedIs("the last of 40", x, 31, 39, 0, 3);
    }

    /** Promise 38, LOG: "'train' N (0 to 60 ..)". */
    static void promise38TrainOf0To60() {
        Texts.log("train 0;", -1);
        Texts.log("train 60;", -1);
        Texts.noLog("train 61;", 6, 2);
        Texts.noLog("train 999;", 6, 2);
        Texts.noLog("train;", 5, 1);
        Texts.noLog("train 1 1;", 8, 1);
        WindowSale x = Due.at(TWO);
        Due.log(x, "train 60;at 0;waits 60;", 1);
        Due.is("it stood 60", x.now(1), 60);
    }

    /** Promise 38, LOG: "its seed is N, too". */
    static void promise38ItsSeedIsN() {
        for (int n = 1; n <= 60; n++) {
            WindowSale x = Due.at("window 7 1 1 9;shy 6;");
            Due.log(x, "train " + n + ";at 0;coin;", 1);
            int draw = (n * 1103515245 + 12345 >>> 8) % 12;
            Due.is("COIN by " + n, x.latest(), draw >= 6 ? 1 : 5);
        }
    }

    /** Promise 38, LOG: "'at' N (0 to 9 ..)": 9 is a NUMBER as told, though there is no such WINDOW. */
    static void promise38AtOf0To9() {
        WindowSale x = Due.at(TEN);
        Due.is("at 0", Due.log(x, "train 1;at 0;", 0), -1);
        Due.is("at 9", Due.log(x, "train 1;at 9;", 0), -1);
        Texts.log("train 1;at 1;", -1);
        Texts.log("train 1;at 2;", 1);
        Texts.log("train 1;at 9;", 1);
        Texts.noLog("train 1;at 10;", 11, 2);
        Texts.noLog("at;", 2, 1);
    }

    /** Promise 38, LOG: "'waits' N (1 to 60)". */
    static void promise38WaitsOf1To60() {
        Texts.log("train 60;at 0;waits 1;waits 59;", -1);
        Texts.log("train 60;at 0;waits 60;", -1);
        Texts.noLog("waits 0;", 6, 2);
        Texts.noLog("waits 61;", 6, 2);
        Texts.noLog("waits;", 5, 1);
    }

    /** Promise 38, LOG: 'fruit', 'coin', 'up', 'down' go without a NUMBER. */
    static void promise38WithoutANumber() {
        for (String word : new String[] {"fruit", "coin", "up", "down"}) {
            Texts.log(word + ";", 0);
            Texts.noLog(word + " 1;", word.length() + 1, 1);
            Texts.noLog(word, word.length(), 1);
        }
    }

    /** Promise 38: "judged, all staying as it is (lives 0)". */
    static void promise38Judged() {
        WindowSale x = Due.at(TWO);
        x.train(20, 0);
        x.begin(0);
        Due.is("judged", Due.log(x, "fruit;up;fruit;waits 60;train 5;at 1;", 0), -1);
        int[] due = {1, 0, 0, 3, 0, 1, 0, 0, 0, 0, 0};
        for (int k = 0; k < due.length; k++) {
            Due.is("now(" + k + ")", x.now(k), due[k]);
        }
        Due.is("bought", () -> x.window(0, 4), 0);
        Due.is("latest", x.latest(), 0);
        Due.is("undo", x.undo(), 1);
    }

    /** Promise 38: "lived as far as it is not WRONG (1): the LINE that is WRONG": the first, the last. */
    static void promise38AsFarAsItIsNotWrong() {
        WindowSale first = Due.at(TWO);
        Due.is("the first", Due.log(first, "up;train 5;", 1), 0);
        Due.is("no train", first.now(5), 0);
        WindowSale last = Due.at(TWO);
        Due.is("the last", Due.log(last, "train 5;at 0;down;", 1), 2);
        Due.is("begun", last.now(2), 0);
        WindowSale middle = Due.at(TWO);
        Due.is("in the middle", Due.log(middle, "train 5;at 0;down;fruit;", 1), 2);
        Due.is("nothing behind it", middle.latest(), 0);
    }

    /** Promise 38: "-2 less the place of a FAULT": at 0 it is -2, so that NONE stays another answer. */
    static void promise38PlaceOfAFault() {
        Texts.noLog("x", 0, 1);
        Texts.noLog(" x", 1, 1);
        Texts.noLog("up;x", 3, 1);
        WindowSale x = Due.at(TWO);
        Due.is("a FAULT behind a WRONG LINE", Due.log(x, "up;up", 0), -7);
        Due.is("it is not logged", x.logged(0), -1);
    }

    /** Promise 39: "NONE: another what, or ahead of any": -1, 0, 3, 4. */
    static void promise39What() {
        WindowSale x = Due.at(TWO);
        for (int what = -1; what <= 4; what++) {
            Due.is("ahead of any: logged(" + what + ")", x.logged(what), -1);
        }
        Due.log(x, "train 61;", 0);
        Due.is("behind a FAULT alone", x.logged(0), -1);
        Due.log(x, "", 0);
        loggedIs("behind one", x, 0, 0, 0, 0);
        Due.is("logged(4)", x.logged(4), -1);
        Due.is("logged(MAX)", x.logged(Integer.MAX_VALUE), -1);
        for (int what : BEYOND) {
            Due.is("logged(" + what + ")", x.logged(what), -1);
        }
    }

    /** Promise 39: "Of the latest log() that had no FAULT (and was not -1000)". */
    static void promise39OfTheLatestWithoutAFault() {
        WindowSale x = Due.at(TWO);
        Due.log(x, "train 9;at 0;fruit;", 0);
        loggedIs("the first", x, 0, 3, 7, 2);
        Due.log(x, "up", 0);
        loggedIs("behind a FAULT", x, 0, 3, 7, 2);
        x.log(7);
        loggedIs("behind -1000", x, 0, 3, 7, 2);
        Due.station(x, "window 1 1 1 1;");
        loggedIs("behind a STATION", x, 0, 3, 7, 2);
        Due.log(x, "up;", 1);
        loggedIs("behind the next", x, 31, 0, 0, 0);
    }

    private static void wrong(String text, int line, int why) {
        WindowSale x = Due.at(TWO);
        Due.is("log '" + text + "'", Due.log(x, text, 0), line);
        Due.is("why of '" + text + "'", x.logged(0), why);
        Due.is("LINES of '" + text + "'", x.logged(1), line);
    }

    /** Promise 39: why "as for a train": 1, while one stands; not when it has moved. */
    static void promise39WhyNoTrain() {
        wrong("train 1;train 1;", 1, 1);
        wrong("train 1;at 0;train 1;", 2, 1);
        Texts.log("train 0;train 1;at 0;waits 1;train 1;", -1);
    }

    /** Promise 39: why "10 more as for beginning": 11, 12. */
    static void promise39WhyNotBegun() {
        wrong("at 0;", 0, 11);
        wrong("train 0;at 0;", 1, 11);
        wrong("train 1;at 0;at 1;", 2, 12);
        wrong("train 1;at 0;waits 1;at 1;", 3, 11);
    }

    /** Promise 39: why "19: there is no such WINDOW": with a train or none, begun or not. */
    static void promise39WhyNoSuchWindow() {
        wrong("at 2;", 0, 19);
        wrong("train 1;at 2;", 1, 19);
        wrong("train 1;at 1;at 9;", 2, 19);
        wrong("train 1;at 1;waits 1;at 2;", 3, 19);
    }

    /** Promise 39: why "20 for selling": 21, 22, 23. */
    static void promise39WhyNotSold() {
        wrong("fruit;", 0, 21);
        wrong("train 5;coin;", 1, 21);
        wrong("train 60;at 0;fruit;coin;fruit;", 4, 23);
        wrong("train 60;at 0;fruit;coin;up;fruit;coin;", 6, 22);
        wrong("train 2;at 0;fruit;fruit;", 3, 21);
    }

    /** Promise 39: why "30 for walking": 31, 32. */
    static void promise39WhyNotWalked() {
        wrong("up;", 0, 31);
        wrong("train 9;down;", 1, 31);
        wrong("train 9;at 0;down;", 2, 32);
        wrong("train 9;at 0;up;up;", 3, 32);
        wrong("train 2;at 0;up;up;", 3, 31);
    }

    /** Promise 39: why "40 for waiting": 41. */
    static void promise39WhyNotWaited() {
        wrong("waits 1;", 0, 41);
        wrong("train 9;waits 1;", 1, 41);
        wrong("train 9;at 0;waits 9;waits 1;", 3, 41);
    }

    /** Promise 39: "2 pence in it, 3 fruits left then": of a train that stood there already, and none at all. */
    static void promise39PenceAndFruits() {
        WindowSale x = Due.at(TWO);
        Due.log(x, "up;", 0);
        loggedIs("no train", x, 31, 0, 0, 0);
        x.train(60, 0);
        x.begin(0);
        x.sell(0);
        Due.log(x, "", 0);
        loggedIs("nothing in it", x, 0, 0, 0, 2);
        Due.log(x, "fruit;up;fruit;", 0);
        loggedIs("12 in it", x, 0, 3, 12, 0);
        Due.log(x, "fruit;fruit;", 1);
        loggedIs("7 as far as not WRONG", x, 23, 1, 7, 1);
        Due.is("pence in all", x.now(4), 14);
    }

    /** Promise 40: "how many ONES (each not, bracket and other one)". */
    static void promise40HowManyOnes() {
        Texts.sentence("open", 1);
        Texts.sentence("not open", 2);
        Texts.sentence("(open)", 2);
        Texts.sentence("not (not open)", 4);
        Texts.sentence("open or fair and ahead", 3);
        Texts.sentence("(open or fair) and not ahead", 5);
    }

    /** Promise 40, SENTENCE: "20 ONES": 19, 20, 21; a not and a bracket count, too. */
    static void promise40TwentyOnes() {
        Texts.sentence("open" + " or open".repeat(18), 19);
        Texts.sentence("open" + " or open".repeat(19), 20);
        Texts.noSentence("open" + " or open".repeat(20), 160, 4);
        Texts.sentence("open" + " and fair".repeat(18) + " or open", 20);
        Texts.noSentence("open" + " or open".repeat(18) + " or not open", 156, 4);
        Texts.noSentence("open" + " or open".repeat(18) + " or (open)", 153, 4);
        Texts.sentence("(open) or (open)" + " or open".repeat(16), 20);
        Texts.noSentence("open" + " or open".repeat(19) + " or not open", 160, 4);
        Texts.noSentence("open" + " or open".repeat(19) + " or (open)", 160, 4);
    }

    /** Promise 40, SENTENCE: "8 within one another": 7, 8, 9, of brackets, nots and both. */
    static void promise40EightWithin() {
        for (int outer = 6; outer <= 7; outer++) {
            Texts.sentence("(".repeat(outer) + "open" + ")".repeat(outer), outer + 1);
            Texts.sentence("not ".repeat(outer) + "open", outer + 1);
            Texts.sentence("not (".repeat(outer / 2) + "open" + ")".repeat(outer / 2), 2 * (outer / 2) + 1);
        }
        Texts.noSentence("(".repeat(8) + "open" + ")".repeat(8), 8, 4);
        Texts.noSentence("not ".repeat(8) + "open", 32, 4);
        Texts.noSentence("not (".repeat(4) + "open" + ")".repeat(4), 20, 4);
        Texts.noSentence("(".repeat(9), 8, 4);
        Texts.noSentence("not ".repeat(9), 32, 4);
    }

    /** Promise 40, SENTENCE: those beside one another are not within: 8 deep twice, and a ninth behind them. */
    static void promise40BesideOneAnother() {
        String deep = "(((((((open)))))))";
        Texts.sentence(deep + " or " + deep, 16);
        Texts.sentence(deep + " and not open", 10);
        Texts.noSentence(deep + " or (" + deep + ")", 30, 4);
        Texts.noSentence("open and not " + deep, 20, 4);
    }

    /** Promise 40, SENTENCE: what can't come at each place. */
    static void promise40WhatCantCome() {
        Texts.noSentence("or open", 0, 1);
        Texts.noSentence("open open", 5, 1);
        Texts.noSentence("open and or", 9, 1);
        Texts.noSentence("not and", 4, 1);
        Texts.noSentence("()", 1, 1);
        Texts.noSentence("(open", 5, 1);
        Texts.noSentence("open)", 4, 1);
        Texts.noSentence("(open))", 6, 1);
        Texts.noSentence("price 5", 6, 1);
        Texts.noSentence("price < < 5", 8, 1);
        Texts.noSentence("price < open", 8, 1);
        Texts.noSentence("5 > price", 0, 1);
        Texts.noSentence("open > 1", 5, 1);
        Texts.noSentence("open;", 4, 1);
    }

    /** Promise 40, SENTENCE: NUMBER is any of 1 to 3 digits: 0, 999; 1000 is no TOKEN. */
    static void promise40AnyNumber() {
        Texts.sentence("price < 0", 1);
        Texts.sentence("price < 999", 1);
        Texts.sentence("price < 000", 1);
        Texts.noSentence("price < 1000", 8, 1);
    }

    private static void says(WindowSale x, String text, int bits) {
        Due.is("sentence '" + text + "' is read", Due.sentence(x, text) > 0, true);
        Due.is("said of '" + text + "'", x.said(-1), Integer.bitCount(bits));
        int k = 0;
        for (int w = 0; w < 10; w++) {
            if ((bits >> w & 1) == 1) {
                Due.is("said(" + k + ") of '" + text + "'", x.said(k), w);
                k++;
            }
        }
        Due.is("behind the last of '" + text + "'", x.said(k), -1);
    }

    /** Promise 41: "how many (k NONE), or the k-th. NONE: there is no SENTENCE, none such". */
    static void promise41NoneSuch() {
        WindowSale x = Due.at(TEN);
        for (int k = -2; k <= 1; k++) {
            Due.is("no SENTENCE: said(" + k + ")", x.said(k), -1);
        }
        Due.sentence(x, "number > 7");
        Due.is("how many", x.said(-1), 2);
        Due.is("said(0)", x.said(0), 8);
        Due.is("said(1)", x.said(1), 9);
        for (int k : new int[] {2, 10, -2, Integer.MIN_VALUE, Integer.MAX_VALUE}) {
            Due.is("said(" + k + ")", x.said(k), -1);
        }
        Due.sentence(x, "number > 9");
        Due.is("of none", x.said(-1), 0);
        Due.is("of none, the first", x.said(0), -1);
        Due.sentence(x, "number < 10");
        Due.is("of all", x.said(-1), 10);
        Due.is("of all, the last", x.said(9), 9);
        WindowSale none = new WindowSale();
        Due.sentence(none, "not open");
        Due.is("no WINDOWS", none.said(-1), 0);
        Due.is("no WINDOWS, the first", none.said(0), -1);
    }

    /** Promise 41, SENTENCE: "SIGN: < = >": the NUMBER one below, at and above what it has. */
    static void promise41Signs() {
        WindowSale x = Due.at("window 10 3 1 9;");
        String[] words = {"price", "takes", "number", "bought"};
        int[] sizes = {10, 3, 0, 0};
        for (int k = 0; k < words.length; k++) {
            for (int number = Math.max(0, sizes[k] - 1); number <= sizes[k] + 1; number++) {
                says(x, words[k] + " < " + number, sizes[k] < number ? 1 : 0);
                says(x, words[k] + " = " + number, sizes[k] == number ? 1 : 0);
                says(x, words[k] + " > " + number, sizes[k] > number ? 1 : 0);
            }
        }
        says(x, "price < 999", 1);
        says(x, "price > 999", 0);
    }

    /** Promise 41, SENTENCE: "'open' (it buys yet)": OFTEN 0, and bought one below and at OFTEN. */
    static void promise41Open() {
        WindowSale x = Due.at("window 5 1 0 9;window 5 1 1 9;window 5 1 2 9;basket 2;");
        says(x, "open", 0b110);
        x.train(9, 0);
        x.begin(1);
        says(x, "open", 0b110);
        x.sell(0);
        says(x, "open", 0b100);
        x.walk(1);
        x.sell(0);
        says(x, "open", 0b100);
        says(x, "bought = 1", 0b110);
        x.waits(9);
        x.train(9, 0);
        says(x, "open", 0b110);
        says(x, "bought = 0", 0b111);
    }

    /** Promise 41, SENTENCE: "'fair' (WEEKLY holds)": one below and at it. */
    static void promise41Fair() {
        WindowSale x = Due.at("window 10 1 1 19;window 10 1 1 20;window 10 1 1 21;");
        says(x, "fair", 0b110);
        says(x, "not fair", 0b001);
    }

    /** Promise 41, SENTENCE: "'ahead' (above the one where he is)": not that one, none above the last. */
    static void promise41Ahead() {
        WindowSale x = Due.at(TEN);
        says(x, "ahead", 0);
        x.train(60, 0);
        says(x, "ahead", 0);
        x.begin(8);
        says(x, "ahead", 0b1000000000);
        x.walk(1);
        says(x, "ahead", 0);
        x.walk(0);
        x.walk(0);
        says(x, "ahead", 0b1100000000);
        x.waits(60);
        x.train(60, 0);
        x.begin(0);
        says(x, "ahead", 0b1111111110);
    }

    /** Promise 41, SENTENCE: 'and' ahead of 'or', not ahead of both, brackets ahead of all. */
    static void promise41WhatBindsFirst() {
        WindowSale x = Due.at("window 5 1 1 9;".repeat(3));
        says(x, "number = 0 or number = 1 and number = 2", 0b001);
        says(x, "(number = 0 or number = 1) and number = 2", 0b000);
        says(x, "number = 2 and number = 1 or number = 0", 0b001);
        says(x, "not number = 0 and number = 1", 0b010);
        says(x, "not (number = 0 and number = 1)", 0b111);
        says(x, "not number = 0 or number = 0", 0b111);
        says(x, "not not number = 0", 0b001);
    }

    /** Promise 41, SENTENCE: of the greatest size it may still be said: 20 ONES, 8 within. */
    static void promise41OfTheGreatest() {
        WindowSale x = Due.at(TEN);
        says(x, "number=9" + " or number=0".repeat(14) + " and open", 0b1000000001);
        says(x, "open and (open and (open and (open and (open and (open and (open and number = 3))))))", 0b1000);
        says(x, "open or ".repeat(19) + "fair", 0b1111111111);
        says(x, "not ".repeat(7) + "number = 3", 0b1111110111);
        WindowSale y = Due.at("window 5 1 0 9;window 5 1 0 10;window 5 1 0 11;");
        says(y, "open or ".repeat(19) + "fair", 0b110);
        says(y, "not open and not open and not open and not open and not open and not open and not open"
            + " and not open and not open and fair", 0b110);
    }

    /** Promise 42: "false: no such one": -1, 0, 1, 2. */
    static void promise42Places() {
        WindowSale x = Due.at(TWO);
        Due.is("image(0)", x.image(0), true);
        Due.is("image(1)", x.image(1), true);
        Due.is("image(2)", x.image(2), false);
        Due.is("image(MAX)", x.image(Integer.MAX_VALUE), false);
        for (int k : BEYOND) {
            Due.is("image(" + k + ")", x.image(k), false);
        }
        Due.is("of a new object", new WindowSale().image(0), true);
    }

    /** Promise 42: each place keeps its own, and the latest there. */
    static void promise42EachItsOwn() {
        WindowSale x = Due.at("window 1 1 1 1;");
        x.image(0);
        Due.station(x, "window 2 1 1 1;");
        x.image(1);
        Due.station(x, "window 3 1 1 1;");
        x.restore(0);
        Due.is("place 0", () -> x.window(0, 0), 1);
        x.restore(1);
        Due.is("place 1", () -> x.window(0, 0), 2);
        x.image(0);
        x.restore(1);
        x.restore(0);
        Due.is("the latest in place 0", () -> x.window(0, 0), 2);
    }

    /** Promise 42: "STATION, all that is so and the SENTENCE are kept", the draws to come too. */
    static void promise42AllIsKept() {
        int seed = Due.seedOf(12, 6, 5, 6);
        WindowSale x = Due.at("window 7 2 3 9;window 5 3 1 9;walk 2;whistle 9;");
        x.train(12, seed);
        x.begin(0);
        x.sell(1);
        Due.sentence(x, "number = 1");
        x.image(1);
        Due.station(x, "window 1 1 1 1;window 1 1 1 1;window 1 1 1 1;");
        x.train(3, 0);
        Due.sentence(x, "number = 2");
        x.restore(1);
        int[] due = {1, 2, 0, 11, 7, 1, 1, 0, 0, 0, 0};
        for (int k = 0; k < due.length; k++) {
            Due.is("now(" + k + ")", x.now(k), due[k]);
        }
        Due.is("the SENTENCE", x.said(0), 1);
        Due.is("of one", x.said(-1), 1);
        Due.is("the STATION", x.count(3), 2);
        Due.is("bought", () -> x.window(0, 4), 1);
        Due.is("bought in all", () -> x.window(0, 5), 1);
        Due.is("latest", x.latest(), 1);
        Due.is("not heard yet", x.heard(), 0);
        x.sell(1);
        Due.is("the next draw", x.latest(), 5);
        Due.is("heard", x.heard(), 1);
        x.sell(1);
        Due.is("the draw behind it", x.latest(), 1);
    }

    /** Promise 42: what is kept is no longer touched by what is done. */
    static void promise42IsNotTouched() {
        WindowSale x = Due.at(TWO);
        x.train(60, 0);
        x.begin(0);
        x.image(0);
        x.sell(0);
        x.walk(1);
        Due.sentence(x, "open");
        x.restore(0);
        x.sell(1);
        x.sell(1);
        x.restore(0);
        int[] due = {1, 0, 0, 3, 0, 1, 0, 0, 0, 0, 0};
        for (int k = 0; k < due.length; k++) {
            Due.is("now(" + k + ")", x.now(k), due[k]);
        }
        Due.is("bought", () -> x.window(0, 4), 0);
        Due.is("no SENTENCE", x.said(-1), -1);
        Due.is("no sale", x.latest(), 0);
    }

    /** Promise 43: "false: no such one, or nothing is kept there": -1, 0, 1, 2. */
    static void promise43NothingIsKept() {
        WindowSale x = Due.at(TWO);
        x.train(9, 0);
        for (int k : new int[] {0, 1, 2, -1, -2, Integer.MIN_VALUE, Integer.MAX_VALUE}) {
            Due.is("nothing kept: restore(" + k + ")", x.restore(k), false);
        }
        Due.is("refused, it can be undone", x.undo(), 0);
        x.image(1);
        Due.is("restore(0)", x.restore(0), false);
        Due.is("restore(1)", x.restore(1), true);
        Due.is("restore(1) again", x.restore(1), true);
        Due.is("restore(2)", x.restore(2), false);
        Due.is("restore(-1)", x.restore(-1), false);
    }

    /** Promise 43: "nothing can be undone", then acts can again, 8 at most. */
    static void promise43NothingCanBeUndone() {
        WindowSale x = Due.at(TWO);
        x.train(60, 0);
        x.begin(0);
        x.image(0);
        x.waits(1);
        x.restore(0);
        Due.is("nothing", x.undo(), -1);
        Due.is("as kept", x.now(2), 0);
        for (int k = 0; k < 9; k++) {
            x.waits(1);
        }
        for (int more = 7; more >= 0; more--) {
            Due.is("undo, more", x.undo(), more);
        }
        Due.is("none", x.undo(), -1);
        Due.is("SECOND", x.now(1), 1);
    }

    /** Promise 43: "the tape, and what other calls told last, stays". */
    static void promise43WhatStays() {
        WindowSale x = Due.at(TWO);
        x.image(0);
        Due.log(x, "train 9;at 0;fruit;fruit;fruit;", 0);
        Due.sentence(x, "(".repeat(9));
        Due.tape(x, "walk 3;");
        Due.is("restore", x.restore(0), true);
        Due.is("the tape", x.count(11), 7);
        Due.is("fault()", x.fault(), 4);
        loggedIs("logged", x, 23, 4, 14, 1);
        Due.is("the tape is read", x.station(), 1);
        Due.is("walk 3", x.count(3), 3);
    }

    /** Promise 43: the STATION's plans are those of the one kept. */
    static void promise43PlansAsKept() {
        WindowSale x = Due.at(TWO);
        int most = x.best(3);
        x.image(0);
        Due.station(x, TEN);
        Due.is("another plan", x.best(2), 5);
        x.restore(0);
        Due.is("the plan kept", x.best(3), most);
        Due.is("sellers", x.sellers(), 2);
        Due.is("count", x.count(0), 2);
    }

    /** Promises 6, 17, 18, 21, 25, 26 and 33: "A call that throws changes nothing". */
    static void promise06ThrowsChangeNothing() {
        WindowSale x = Due.at(TWO);
        x.train(10, 0);
        x.begin(0);
        x.sell(0);
        Due.sentence(x, "open");
        Due.sentence(x, "opens");
        Due.tape(x, "abc");
        Due.throwing("window", () -> x.window(2, 0));
        Due.throwing("yet", () -> x.yet(61, 0));
        Due.throwing("gain", () -> x.gain(0, 0, 61, 0));
        Due.throwing("plan", () -> x.plan(0, 0, 25, 0));
        Due.throwing("earns", () -> x.earns(3, 0, 0));
        Due.throwing("curve", () -> x.curve(3, 0));
        Due.throwing("meant", () -> x.meant(0, 10, 0));
        int[] due = {1, 2, 0, 2, 7, 1, 1, 0, 0, 0, 0};
        for (int k = 0; k < due.length; k++) {
            Due.is("now(" + k + ")", x.now(k), due[k]);
        }
        Due.is("tape", x.count(11), 3);
        Due.is("fault", x.fault(), 1);
        Due.is("said", x.said(-1), 2);
        Due.is("latest", x.latest(), 1);
        Due.is("undo", x.undo(), 2);
    }
}
