/** Bounds of what is likely ('==== 3.'), promises 17 to 20, 31 to 33 and 35: on them, one below, one above. */
public final class ChanceBoundsTest {
    private static final String WINDOW = "window 10 3 1 20;";
    private static final int[] BEYOND = {Integer.MIN_VALUE, -1000, -2, -1};

    public static void main(String[] args) {
        Due.promises(ChanceBoundsTest.class);
    }

    private static WindowSale standing(String text, int stands, int second) {
        WindowSale x = Due.at(text);
        x.train(stands, 0);
        x.begin(0);
        if (second > 0) {
            x.waits(second);
        }
        return x;
    }

    private static void yetIs(WindowSale x, int n, int above, int below) {
        Due.fraction("yet(" + n + ") at " + x.now(1), () -> x.yet(n, 0), () -> x.yet(n, 1), above, below);
    }

    private static void gainIs(WindowSale x, int way, int t, int above, int below) {
        Due.fraction("gain(0, " + way + ", " + t + ")",
            () -> x.gain(0, way, t, 0), () -> x.gain(0, way, t, 1), above, below);
    }

    private static void meantIs(WindowSale x, int t, int above, int below) {
        Due.fraction("meant(0, " + t + ")", () -> x.meant(0, t, 0), () -> x.meant(0, t, 1), above, below);
    }

    /** Promise 17, YET: "S less SECOND is n or above": one below, on it, one above. */
    static void promise17NOrAbove() {
        WindowSale x = standing(WINDOW + "stands 10 1;stands 20 2;", 20, 5);
        yetIs(x, 4, 1, 1);
        yetIs(x, 5, 1, 1);
        yetIs(x, 6, 2, 3);
        yetIs(x, 14, 2, 3);
        yetIs(x, 15, 2, 3);
        yetIs(x, 16, 0, 1);
    }

    /** Promise 17: "n 0 to 60": -1, 0, 60, 61. */
    static void promise17NOf0To60() {
        WindowSale x = standing(WINDOW + "stands 60 9;", 60, 0);
        yetIs(x, 0, 1, 1);
        yetIs(x, 60, 1, 1);
        Due.throwing("n 61", () -> x.yet(61, 0));
        Due.throwing("n MAX", () -> x.yet(Integer.MAX_VALUE, 0));
        for (int n : BEYOND) {
            Due.throwing("n " + n, () -> x.yet(n, 0));
        }
        x.waits(1);
        yetIs(x, 59, 1, 1);
        yetIs(x, 60, 0, 1);
    }

    /** Promise 17: "no such ones": what -1, 0, 1, 2. */
    static void promise17What() {
        WindowSale x = standing(WINDOW, 10, 0);
        yetIs(x, 10, 1, 1);
        Due.throwing("what 2", () -> x.yet(10, 2));
        for (int what : BEYOND) {
            Due.throwing("what " + what, () -> x.yet(10, what));
        }
    }

    /** Promise 17: "no train stands there": ahead of any, at S - 1, at S; he need not have begun. */
    static void promise17NoTrainStandsThere() {
        WindowSale x = Due.at(WINDOW);
        Due.throwing("ahead of any", () -> x.yet(0, 0));
        x.train(0, 0);
        Due.throwing("of 0 SECONDS", () -> x.yet(0, 0));
        x.train(10, 0);
        yetIs(x, 10, 1, 1);
        x.begin(0);
        x.waits(9);
        yetIs(x, 1, 1, 1);
        yetIs(x, 2, 0, 1);
        x.waits(1);
        Due.throwing("at S", () -> x.yet(0, 0));
    }

    /** Promise 17: "none of 'stands' can be so": a train that stands longer than any, at their last SECOND and behind. */
    static void promise17NoneCanBeSo() {
        WindowSale x = standing(WINDOW + "stands 10 1;stands 20 2;", 60, 19);
        yetIs(x, 1, 1, 1);
        x.waits(1);
        Due.throwing("at 20", () -> x.yet(0, 0));
        Due.throwing("below at 20", () -> x.yet(0, 1));
        WindowSale heard = standing(WINDOW + "stands 10 1;stands 20 2;whistle 5;", 12, 9);
        yetIs(heard, 1, 1, 1);
        heard.waits(1);
        Due.throwing("heard, but 20 whistles from 15 on", () -> heard.yet(0, 0));
        WindowSale silent = standing(WINDOW + "stands 20 2;whistle 5;", 40, 14);
        yetIs(silent, 6, 1, 1);
        silent.waits(1);
        Due.throwing("not heard, but 20 would be", () -> silent.yet(0, 0));
    }

    /** Promise 17, YET: "that it stands yet": one of 'stands' falls out at its SECOND. */
    static void promise17ThatItStandsYet() {
        WindowSale x = standing(WINDOW + "stands 10 1;stands 20 2;", 20, 9);
        yetIs(x, 1, 1, 1);
        yetIs(x, 2, 2, 3);
        x.waits(1);
        yetIs(x, 2, 1, 1);
        yetIs(x, 10, 1, 1);
        yetIs(x, 11, 0, 1);
    }

    /** Promise 17, YET: "that the whistle was heard, or was not": at the SECOND ahead of it and from it on. */
    static void promise17ByTheWhistle() {
        WindowSale longer = standing(WINDOW + "stands 10 1;stands 20 2;whistle 5;", 20, 4);
        yetIs(longer, 7, 2, 3);
        longer.waits(1);
        yetIs(longer, 15, 1, 1);
        yetIs(longer, 16, 0, 1);
        WindowSale shorter = standing(WINDOW + "stands 10 1;stands 20 2;whistle 5;", 10, 4);
        yetIs(shorter, 7, 2, 3);
        shorter.waits(1);
        yetIs(shorter, 5, 1, 1);
        yetIs(shorter, 6, 0, 1);
    }

    /** Promise 17, YET: "(N above 0 told)": with N 0, told or not, silence tells nothing; with N 1 it does. */
    static void promise17NAbove0() {
        for (String none : new String[] {"", "whistle 0;"}) {
            WindowSale x = standing(WINDOW + "stands 10 1;stands 20 2;" + none, 20, 9);
            yetIs(x, 2, 2, 3);
        }
        WindowSale y = standing(WINDOW + "stands 10 1;stands 20 2;whistle 1;", 20, 8);
        yetIs(y, 3, 2, 3);
        y.waits(1);
        yetIs(y, 3, 1, 1);
    }

    /** Promise 17: of a STATION told behind one that has more 'stands'. */
    static void promise17BehindMoreStands() {
        WindowSale x = Due.at(WINDOW + "stands 10 1;stands 20 1;stands 30 9;stands 40 9;");
        Due.station(x, WINDOW + "stands 10 1;stands 20 1;");
        x.train(20, 0);
        yetIs(x, 11, 1, 2);
        yetIs(x, 21, 0, 1);
        Due.station(x, WINDOW);
        x.train(60, 0);
        yetIs(x, 10, 1, 1);
        yetIs(x, 11, 0, 1);
    }

    /** Promise 17: "All fractions .. in least terms": nothing is 0 of 1, all 1 of 1. */
    static void promise17LeastTerms() {
        WindowSale x = standing(WINDOW + "stands 10 6;stands 20 9;stands 30 3;", 30, 0);
        yetIs(x, 0, 1, 1);
        yetIs(x, 11, 2, 3);
        yetIs(x, 21, 1, 6);
        yetIs(x, 31, 0, 1);
    }

    /** Promise 18, GAIN of FRUIT: "those that stand t and TAKES at least, by 12; those above t, but less, by HONEST". */
    static void promise18FruitAtItsEnd() {
        WindowSale x = Due.at(WINDOW + "stands 6 1;honest 4;");
        gainIs(x, 0, 2, 10, 1);
        gainIs(x, 0, 3, 10, 1);
        gainIs(x, 0, 4, 10, 3);
        gainIs(x, 0, 5, 10, 3);
        gainIs(x, 0, 6, 0, 1);
        gainIs(x, 0, 7, 0, 1);
    }

    /** Promise 18, GAIN of COIN: "(12 less SHY) by WEIGHTS of those above t". */
    static void promise18CoinAboveT() {
        WindowSale x = Due.at(WINDOW + "stands 6 1;stands 9 2;shy 3;");
        gainIs(x, 1, 0, 15, 2);
        gainIs(x, 1, 5, 15, 2);
        gainIs(x, 1, 6, 5, 1);
        gainIs(x, 1, 8, 5, 1);
        gainIs(x, 1, 9, 0, 1);
    }

    /** Promise 18, GAIN: HONEST and SHY at their ends. */
    static void promise18HonestAndShyAtTheirEnds() {
        WindowSale none = Due.at(WINDOW + "stands 6 1;honest 0;shy 0;");
        gainIs(none, 0, 4, 0, 1);
        gainIs(none, 1, 4, 10, 1);
        WindowSale all = Due.at(WINDOW + "stands 6 1;honest 12;shy 12;");
        gainIs(all, 0, 4, 10, 1);
        gainIs(all, 1, 4, 0, 1);
    }

    /** Promise 18: "a SECOND (0 to 60)": -1, 0, 60, 61. */
    static void promise18SecondOf0To60() {
        WindowSale x = Due.at("window 10 1 1 20;stands 60 1;");
        gainIs(x, 0, 0, 10, 1);
        gainIs(x, 0, 59, 10, 1);
        gainIs(x, 0, 60, 0, 1);
        gainIs(x, 1, 60, 0, 1);
        Due.throwing("t 61", () -> x.gain(0, 0, 61, 0));
        Due.throwing("t MAX", () -> x.gain(0, 0, Integer.MAX_VALUE, 0));
        for (int t : BEYOND) {
            Due.throwing("t " + t, () -> x.gain(0, 0, t, 0));
        }
    }

    /** Promise 18: "no such ones": WINDOW, way, what. */
    static void promise18NoSuchOnes() {
        WindowSale x = Due.at(WINDOW + WINDOW);
        Due.is("WINDOW 1", () -> x.gain(1, 0, 0, 0), 10);
        Due.throwing("WINDOW 2", () -> x.gain(2, 0, 0, 0));
        Due.throwing("way 2", () -> x.gain(0, 2, 0, 0));
        Due.throwing("what 2", () -> x.gain(0, 0, 0, 2));
        for (int k : BEYOND) {
            Due.throwing("WINDOW " + k, () -> x.gain(k, 0, 0, 0));
            Due.throwing("way " + k, () -> x.gain(0, k, 0, 0));
            Due.throwing("what " + k, () -> x.gain(0, 0, 0, k));
        }
        Due.throwing("no WINDOWS", () -> new WindowSale().gain(0, 0, 0, 0));
    }

    /** Promise 18, GAIN is "of all TRAINS": not of the one that stands there, nor of what was bought. */
    static void promise18OfAllTrains() {
        WindowSale x = standing(WINDOW + "stands 6 1;", 6, 0);
        gainIs(x, 0, 0, 10, 1);
        x.sell(0);
        gainIs(x, 0, 0, 10, 1);
        gainIs(x, 0, 3, 10, 1);
    }

    /** Promise 19: "The better: the greater one, FRUIT, if they are alike": HONEST one below, at and above 12 less SHY. */
    static void promise19Alike() {
        for (int shy = 1; shy <= 11; shy++) {
            for (int honest = 11 - shy; honest <= 13 - shy; honest++) {
                WindowSale x = Due.at("window 10 9 1 20;stands 5 1;honest " + honest + ";shy " + shy + ";");
                Due.is("HONEST " + honest + ", SHY " + shy, x.better(0, 0), honest < 12 - shy ? 1 : 0);
            }
        }
    }

    /** Promise 19: alike without any GAIN: FRUIT, at a SECOND at which none stands, and with HONEST 0, SHY 12. */
    static void promise19NoGain() {
        WindowSale x = Due.at(WINDOW + "stands 6 1;honest 0;shy 3;");
        Due.is("late: COIN", x.better(0, 5), 1);
        Due.is("none stands", x.better(0, 6), 0);
        WindowSale y = Due.at("window 10 9 1 20;stands 6 1;honest 0;shy 12;");
        Due.is("none pays", y.better(0, 0), 0);
    }

    /** Promise 19: "NONE: no such ones": WINDOWS -1, 0, 1; SECONDS -1, 0, 60, 61. */
    static void promise19NoSuchOnes() {
        WindowSale x = Due.at(WINDOW);
        Due.is("better(0, 0)", x.better(0, 0), 0);
        Due.is("better(0, 60)", x.better(0, 60), 0);
        Due.is("better(0, 61)", x.better(0, 61), -1);
        Due.is("better(1, 0)", x.better(1, 0), -1);
        for (int k : BEYOND) {
            Due.is("better(" + k + ", 0)", x.better(k, 0), -1);
            Due.is("better(0, " + k + ")", x.better(0, k), -1);
        }
        Due.is("no WINDOWS", new WindowSale().better(0, 0), -1);
    }

    /** Promise 20: "The last SECOND .. at which FRUIT is the better way": the end of a sale at S, at S less 1. */
    static void promise20TheLastSecond() {
        Due.is("late is COIN", Due.at(WINDOW + "stands 6 1;honest 5;").trust(0), 3);
        Due.is("late is FRUIT", Due.at(WINDOW + "stands 6 1;honest 6;").trust(0), 5);
        Due.is("at 59", Due.at(WINDOW + "stands 60 1;honest 6;").trust(0), 59);
        Due.is("at 57", Due.at(WINDOW + "stands 60 1;honest 5;").trust(0), 57);
        Due.is("at 0", Due.at(WINDOW + "stands 3 1;honest 5;").trust(0), 0);
        Due.is("by the longer one again", Due.at(WINDOW + "stands 3 9;stands 30 1;honest 0;shy 6;").trust(0), 27);
    }

    /** Promise 20: "and has some GAIN": NONE if it has not at any SECOND. */
    static void promise20SomeGain() {
        Due.is("HONEST 1", Due.at(WINDOW + "stands 2 1;honest 1;shy 12;").trust(0), 1);
        Due.is("the least GAIN there is", Due.at("window 1 2 1 1;stands 1 1;honest 1;shy 12;").trust(0), 0);
        Due.is("HONEST 0", Due.at(WINDOW + "stands 2 1;honest 0;shy 12;").trust(0), -1);
        Due.is("HONEST 0, CLEAN at 0", Due.at(WINDOW + "stands 3 1;honest 0;shy 12;").trust(0), 0);
    }

    /** Promise 20: "NONE: none, no such one". */
    static void promise20None() {
        Due.is("COIN always", Due.at(WINDOW + "stands 2 1;honest 5;").trust(0), -1);
        WindowSale x = Due.at(WINDOW);
        Due.is("trust(1)", x.trust(1), -1);
        for (int w : BEYOND) {
            Due.is("trust(" + w + ")", x.trust(w), -1);
        }
        Due.is("no WINDOWS", new WindowSale().trust(0), -1);
    }

    /** Promise 31, WEEKLY: "(WORTH less PRICE) by AGAIN is PRICE by (12 less AGAIN) at least": one below, at it, above. */
    static void promise31AtLeast() {
        int[][] alike = {{10, 20, 6}, {1, 12, 1}, {11, 12, 11}, {5, 20, 3}, {8, 12, 8}, {33, 99, 4}};
        for (int[] one : alike) {
            for (int more = -1; more <= 1; more++) {
                int worth = one[1] + more;
                if (worth <= 99) {
                    WindowSale x = Due.at("window " + one[0] + " 1 1 " + worth + ";again " + one[2] + ";");
                    Due.is("PRICE " + one[0] + ", WORTH " + worth + ", AGAIN " + one[2], x.weekly(0), more >= 0 ? 1 : 0);
                }
            }
        }
    }

    /** Promise 31: WORTH at PRICE, below it and 0; AGAIN 0 and 11. */
    static void promise31AtTheEnds() {
        Due.is("WORTH 0", Due.at("window 1 1 1 0;again 11;").weekly(0), 0);
        Due.is("WORTH is PRICE", Due.at("window 5 1 1 5;again 11;").weekly(0), 0);
        Due.is("AGAIN 0", Due.at("window 1 1 1 99;again 0;").weekly(0), 0);
        Due.is("AGAIN 11", Due.at("window 1 1 1 2;again 11;").weekly(0), 1);
        Due.is("99 and 0", Due.at("window 99 1 1 0;again 11;").weekly(0), 0);
    }

    /** Promise 31: "NONE: no such one". */
    static void promise31NoSuchOne() {
        WindowSale x = Due.at(WINDOW + WINDOW);
        Due.is("weekly(1)", x.weekly(1), 1);
        Due.is("weekly(2)", x.weekly(2), -1);
        for (int w : BEYOND) {
            Due.is("weekly(" + w + ")", x.weekly(w), -1);
        }
        Due.is("no WINDOWS", new WindowSale().weekly(0), -1);
    }

    /** Promise 32: "The least AGAIN (0 to 11) by which WEEKLY holds": each from 1 to 11, just met and just missed. */
    static void promise32TheLeastAgain() {
        Due.is("1: WORTH 12 of PRICE 1", Due.at("window 1 1 1 12;").needs(0), 1);
        Due.is("2: WORTH 11 of PRICE 1", Due.at("window 1 1 1 11;").needs(0), 2);
        Due.is("6: WORTH 20 of PRICE 10", Due.at("window 10 1 1 20;").needs(0), 6);
        Due.is("7: WORTH 19 of PRICE 10", Due.at("window 10 1 1 19;").needs(0), 7);
        Due.is("11: WORTH 12 of PRICE 11", Due.at("window 11 1 1 12;").needs(0), 11);
        Due.is("none: WORTH 13 of PRICE 12", Due.at("window 12 1 1 13;").needs(0), -1);
        Due.is("11: WORTH 96 of PRICE 88", Due.at("window 88 1 1 96;").needs(0), 11);
        Due.is("none: WORTH 95 of PRICE 88", Due.at("window 88 1 1 95;").needs(0), -1);
        Due.is("whatever AGAIN is told", Due.at("window 10 1 1 20;again 0;").needs(0), 6);
    }

    /** Promise 32: "NONE: by none, no such one". */
    static void promise32None() {
        Due.is("WORTH 0", Due.at("window 1 1 1 0;").needs(0), -1);
        Due.is("WORTH is PRICE", Due.at("window 5 1 1 5;").needs(0), -1);
        WindowSale x = Due.at(WINDOW);
        Due.is("needs(1)", x.needs(1), -1);
        for (int w : BEYOND) {
            Due.is("needs(" + w + ")", x.needs(w), -1);
        }
        Due.is("no WINDOWS", new WindowSale().needs(0), -1);
    }

    /** Promise 33, MEANT: "only if the train moved ahead of its end": its end at S, one above; its beginning at S - 1, at S. */
    static void promise33AheadOfItsEnd() {
        WindowSale x = Due.at(WINDOW + "stands 10 1;stands 20 1;runner 3;");
        meantIs(x, 6, 1, 1);
        meantIs(x, 7, 1, 1);
        meantIs(x, 8, 2, 5);
        meantIs(x, 9, 2, 5);
        meantIs(x, 10, 1, 1);
        meantIs(x, 17, 1, 1);
        meantIs(x, 18, 1, 4);
        meantIs(x, 19, 1, 4);
        Due.throwing("at 20 none stands", () -> x.meant(0, 20, 0));
    }

    /** Promise 33: RUNNER 0, 1, 11, 12 of 12. */
    static void promise33RunnersAtTheirEnds() {
        int[][] due = {{0, 0, 1}, {1, 1, 12}, {11, 11, 12}, {12, 1, 1}};
        for (int[] one : due) {
            WindowSale x = Due.at(WINDOW + "stands 10 1;runner " + one[0] + ";");
            meantIs(x, 9, one[1], one[2]);
            if (one[0] > 0) {
                meantIs(x, 0, 1, 1);
            }
        }
    }

    /** Promise 33: "it can't be": none stands at t, or none moves ahead and there are no RUNNERS. */
    static void promise33ItCantBe() {
        WindowSale x = Due.at(WINDOW + "stands 10 1;runner 0;");
        Due.throwing("its end at S", () -> x.meant(0, 7, 0));
        Due.throwing("its end at S, below", () -> x.meant(0, 7, 1));
        meantIs(x, 8, 0, 1);
        WindowSale y = Due.at(WINDOW + "stands 10 1;runner 12;");
        meantIs(y, 9, 1, 1);
        Due.throwing("at S", () -> y.meant(0, 10, 0));
        Due.throwing("at 60", () -> y.meant(0, 60, 0));
    }

    /** Promise 33: "no such ones": WINDOW, SECOND (0 to 60), what. */
    static void promise33NoSuchOnes() {
        WindowSale x = Due.at(WINDOW + "stands 60 1;");
        meantIs(x, 0, 1, 1);
        meantIs(x, 59, 1, 4);
        Due.throwing("t 60", () -> x.meant(0, 60, 0));
        Due.throwing("t 61", () -> x.meant(0, 61, 0));
        Due.throwing("WINDOW 1", () -> x.meant(1, 0, 0));
        Due.throwing("what 2", () -> x.meant(0, 0, 2));
        for (int k : BEYOND) {
            Due.throwing("WINDOW " + k, () -> x.meant(k, 0, 0));
            Due.throwing("t " + k, () -> x.meant(0, k, 0));
            Due.throwing("what " + k, () -> x.meant(0, 0, k));
        }
        Due.throwing("no WINDOWS", () -> new WindowSale().meant(0, 0, 0));
    }

    /** Promise 35: "The first SECOND from which on no sale .. has any GAIN": the longest S, however small its WEIGHT. */
    static void promise35TheFirstSecond() {
        Due.is("1", Due.at(WINDOW + "stands 1 1;").idle(), 1);
        Due.is("20", Due.at(WINDOW + "stands 20 1;stands 5 9;").idle(), 20);
        Due.is("HONEST 1 alone", Due.at(WINDOW + "stands 20 1;honest 1;shy 12;").idle(), 20);
        Due.is("SHY 11 alone", Due.at(WINDOW + "stands 20 1;honest 0;shy 11;").idle(), 20);
        Due.is("the least GAIN there is", Due.at("window 1 9 1 1;stands 1 1;honest 1;shy 12;").idle(), 1);
        Due.is("CLEAN ones alone", Due.at(WINDOW + "stands 20 1;honest 0;shy 12;").idle(), 18);
        Due.is("at any WINDOW", Due.at(WINDOW + "window 1 1 1 1;stands 20 1;honest 0;shy 12;").idle(), 20);
        Due.is("not at the first alone", Due.at("window 1 1 1 1;" + WINDOW + "stands 20 1;honest 0;shy 12;").idle(), 20);
    }

    /** Promise 35: of a STATION told behind one that has more WINDOWS. */
    static void promise35BehindMoreWindows() {
        WindowSale x = Due.at("window 1 3 1 1;window 1 1 1 1;stands 20 1;honest 0;shy 12;");
        Due.is("two", x.idle(), 20);
        Due.station(x, "window 1 3 1 1;stands 20 1;honest 0;shy 12;");
        Due.is("one", x.idle(), 18);
        Due.station(x, "stands 20 1;");
        Due.is("none", x.idle(), 0);
    }

    /** Promise 35: "(60 at most; 0 without WINDOWS)". */
    static void promise35AtItsEnds() {
        Due.is("stands 60", Due.at(WINDOW + "stands 60 1;").idle(), 60);
        Due.is("stands 59", Due.at(WINDOW + "stands 59 1;").idle(), 59);
        Due.is("without WINDOWS", Due.at("stands 60 1;").idle(), 0);
        Due.is("without any LINE", new WindowSale().idle(), 0);
        Due.is("no GAIN at all", Due.at(WINDOW + "stands 2 1;honest 0;shy 12;").idle(), 0);
        Due.is("at 0 alone", Due.at(WINDOW + "stands 3 1;honest 0;shy 12;").idle(), 1);
    }
}
