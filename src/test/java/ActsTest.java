/** Promises 8 to 16: trains, what he does with them, and undoing it. */
public final class ActsTest {
    public static void main(String[] args) {
        trainsComeAndGo();
        beginning();
        sellingFruitFirst();
        sellingCoinFirst();
        whyNotToSell();
        walking();
        waiting();
        undoing();
        undoingKeepsEight();
        hearing();
        Due.close("ActsTest");
    }

    private static void trainsComeAndGo() {
        WindowSale x = Due.at("window 5 2 1 9;basket 3;");
        Due.is("train(-1)", x.train(-1, 0), -1);
        Due.is("train(61)", x.train(61, 0), -1);
        Due.is("no train", x.now(5), 0);
        Due.is("train(0)", x.train(0, 0), 0);
        Due.is("it has moved", x.now(0), 0);
        Due.is("at SECOND 0", x.now(1), 0);
        Due.is("a full BASKET", x.now(3), 3);
        Due.is("begin behind it", x.begin(0), 1);
        Due.is("train(2)", x.train(2, 0), 0);
        Due.is("trains", x.now(5), 2);
        Due.is("it stands", x.now(0), 1);
        Due.is("train again", x.train(2, 0), 1);
        Due.is("train(61) ahead of why not", x.train(61, 0), -1);
        Due.is("begin", x.begin(0), 0);
        Due.is("sell", x.sell(0), 0);
        Due.is("moved", x.now(0), 0);
        Due.is("where he is", x.now(2), 0);
        Due.is("SECOND", x.now(1), 2);
        Due.is("fruits", x.now(3), 2);
        Due.is("bought of it", () -> x.window(0, 4), 1);
        Due.is("next train", x.train(60, 0), 0);
        Due.is("not begun", x.now(2), -1);
        Due.is("full again", x.now(3), 3);
        Due.is("bought of this", () -> x.window(0, 4), 0);
        Due.is("bought in all", () -> x.window(0, 5), 1);
        Due.is("pence stay", x.now(4), 5);
        Due.is("now(-1)", x.now(-1), -1);
        Due.is("now(11)", x.now(11), -1);
    }

    private static void beginning() {
        WindowSale x = Due.at("window 5 2 1 9;window 5 2 1 9;");
        Due.is("no such window", x.begin(2), -1);
        Due.is("below 0", x.begin(-1), -1);
        Due.is("no train", x.begin(1), 1);
        x.train(5, 0);
        Due.is("no such window, train", x.begin(2), -1);
        Due.is("begin", x.begin(1), 0);
        Due.is("where", x.now(2), 1);
        Due.is("twice", x.begin(0), 2);
        x.waits(5);
        Due.is("moved", x.begin(0), 1);
    }

    private static void sellingFruitFirst() {
        WindowSale x = Due.at("window 7 3 2 9;honest 12;");
        x.train(4, 1);
        x.begin(0);
        Due.is("CLEAN", x.sell(0), 0);
        Due.is("latest CLEAN", x.latest(), 1);
        Due.is("RUN", x.sell(0), 0);
        Due.is("latest RUN", x.latest(), 2);
        Due.is("pence", x.now(4), 14);
        Due.is("fruits", x.now(3), 10);
        Due.is("SECOND", x.now(1), 4);
        Due.is("CLEAN so far", x.now(6), 1);
        Due.is("RUN so far", x.now(7), 1);
        Due.is("bought", () -> x.window(0, 4), 2);
        WindowSale y = Due.at("window 7 3 2 9;honest 0;");
        y.train(3, 1);
        y.begin(0);
        Due.is("ends with the train", y.sell(0), 0);
        Due.is("still CLEAN", y.latest(), 1);
        y.train(2, 1);
        y.begin(0);
        Due.is("LOST", y.sell(0), 0);
        Due.is("latest LOST", y.latest(), 3);
        Due.is("no pence", y.now(4), 7);
        Due.is("the fruit goes", y.now(3), 11);
        Due.is("LOST so far", y.now(8), 1);
        Due.is("bought one", () -> y.window(0, 4), 1);
        Due.is("bought two in all", () -> y.window(0, 5), 2);
        drawsOfHonest();
    }

    /** FRUIT first draws only when the train moves ahead of its end; the draw tells RUN or LOST. */
    private static void drawsOfHonest() {
        WindowSale x = Due.at("window 7 3 2 9;honest 5;");
        for (int seed = -20; seed < 20; seed++) {
            int step = seed * 1103515245 + 12345;
            int draw = (step >>> 8) % 12;
            x.train(4, seed);
            x.begin(0);
            x.sell(0);
            Due.is("CLEAN with seed " + seed, x.latest(), 1);
            x.sell(0);
            Due.is("late with seed " + seed, x.latest(), draw < 5 ? 2 : 3);
        }
    }

    private static void sellingCoinFirst() {
        WindowSale x = Due.at("window 7 3 3 9;shy 0;");
        x.train(4, 1);
        x.begin(0);
        Due.is("CLEAN", x.sell(1), 0);
        Due.is("latest CLEAN", x.latest(), 1);
        Due.is("KEPT", x.sell(1), 0);
        Due.is("latest KEPT", x.latest(), 4);
        Due.is("pence", x.now(4), 14);
        Due.is("the fruit stays", x.now(3), 11);
        Due.is("KEPT so far", x.now(9), 1);
        Due.is("bought one", () -> x.window(0, 4), 1);
        WindowSale y = Due.at("window 7 3 1 9;shy 12;");
        y.train(5, 1);
        y.begin(0);
        Due.is("NOT", y.sell(1), 0);
        Due.is("latest NOT", y.latest(), 5);
        Due.is("SECONDS go", y.now(1), 3);
        Due.is("NOT again", y.sell(1), 0);
        Due.is("SECONDS go to S at most", y.now(1), 5);
        Due.is("NOT so far", y.now(10), 2);
        Due.is("no pence", y.now(4), 0);
        Due.is("fruits stay", y.now(3), 12);
        Due.is("bought none", () -> y.window(0, 4), 0);
        WindowSale z = Due.at("window 7 1 3 9;shy 6;");
        for (int seed = 100; seed < 120; seed++) {
            z.train(9, seed);
            z.begin(0);
            int step = seed;
            for (int k = 0; k < 3; k++) {
                step = step * 1103515245 + 12345;
                z.sell(1);
                Due.is("draw " + k + " of seed " + seed, z.latest(), (step >>> 8) % 12 >= 6 ? 1 : 5);
            }
            z.waits(60);
        }
    }

    private static void whyNotToSell() {
        WindowSale x = Due.at("window 7 1 1 9;window 7 1 0 9;window 7 1 3 9;basket 2;");
        Due.is("no train", x.sell(0), 1);
        Due.is("another way", x.sell(2), -1);
        Due.is("another way below", x.sell(-1), -1);
        x.train(30, 0);
        Due.is("not begun", x.sell(1), 1);
        x.begin(0);
        x.sell(0);
        Due.is("has bought OFTEN", x.sell(0), 3);
        Due.is("has bought OFTEN, COIN", x.sell(1), 3);
        x.walk(1);
        Due.is("OFTEN 0", x.sell(0), 3);
        x.walk(1);
        x.sell(0);
        Due.is("no fruit", x.sell(0), 2);
        x.walk(0);
        Due.is("no fruit is the least", x.sell(0), 2);
        x.waits(60);
        Due.is("moved is the least", x.sell(0), 1);
        WindowSale y = Due.at("window 7 1 1 9;basket 0;");
        y.train(9, 0);
        y.begin(0);
        Due.is("an empty BASKET", y.sell(1), 2);
    }

    private static void walking() {
        WindowSale x = Due.at("window 7 1 1 9;window 7 1 1 9;walk 4;");
        Due.is("another way", x.walk(2), -1);
        Due.is("no train", x.walk(1), 1);
        x.train(6, 0);
        Due.is("not begun", x.walk(1), 1);
        x.begin(0);
        Due.is("none DOWN", x.walk(0), 2);
        Due.is("SECOND stays", x.now(1), 0);
        Due.is("UP", x.walk(1), 0);
        Due.is("SECOND", x.now(1), 4);
        Due.is("where", x.now(2), 1);
        Due.is("none UP", x.walk(1), 2);
        Due.is("DOWN", x.walk(0), 0);
        Due.is("to S at most", x.now(1), 6);
        Due.is("where", x.now(2), 0);
        Due.is("moved", x.walk(1), 1);
    }

    private static void waiting() {
        WindowSale x = Due.at("window 7 1 1 9;");
        Due.is("0", x.waits(0), -1);
        Due.is("61", x.waits(61), -1);
        Due.is("no train", x.waits(1), 1);
        x.train(60, 0);
        Due.is("not begun", x.waits(1), 1);
        x.begin(0);
        Due.is("1", x.waits(1), 0);
        Due.is("SECOND", x.now(1), 1);
        Due.is("60", x.waits(60), 0);
        Due.is("SECOND S", x.now(1), 60);
        Due.is("moved", x.now(0), 0);
    }

    private static void undoing() {
        WindowSale x = Due.at("window 7 2 2 9;window 7 2 2 9;shy 6;");
        Due.is("none", x.undo(), -1);
        x.train(30, 77);
        x.begin(0);
        x.sell(1);
        int first = x.latest();
        x.sell(1);
        int second = x.latest();
        x.walk(1);
        x.walk(1);
        x.train(9, 1);
        Due.is("undo walk", x.undo(), 4);
        Due.is("where", x.now(2), 0);
        Due.is("latest stays", x.latest(), second);
        Due.is("undo sale", x.undo(), 3);
        Due.is("latest", x.latest(), first);
        Due.is("SECOND", x.now(1), 2);
        x.sell(1);
        Due.is("the same draw again", x.latest(), second);
        Due.is("undo", x.undo(), 3);
        Due.is("undo", x.undo(), 2);
        Due.is("no sale", x.latest(), 0);
        Due.is("undo begin", x.undo(), 1);
        Due.is("not begun", x.now(2), -1);
        Due.is("undo train", x.undo(), 0);
        Due.is("no train has come", x.now(1), -1);
        Due.is("none any more", x.undo(), -1);
        Due.log(x, "train 5; at 0; fruit; down;", 1);
        Due.is("lived", x.now(4), 7);
        Due.is("undo the LOG", x.undo(), 0);
        Due.is("as ahead of it", x.now(5), 0);
        Due.log(x, "train 5; at 0; fruit;", 0);
        Due.is("a judged LOG is no act", x.undo(), -1);
    }

    private static void undoingKeepsEight() {
        WindowSale x = Due.at("window 7 2 2 9;");
        x.train(60, 0);
        x.begin(0);
        for (int k = 0; k < 10; k++) {
            x.waits(1);
        }
        for (int k = 7; k >= 0; k--) {
            Due.is("undo, more: " + k, x.undo(), k);
        }
        Due.is("none", x.undo(), -1);
        Due.is("SECOND", x.now(1), 2);
        Due.is("begun", x.now(2), 0);
    }

    private static void hearing() {
        WindowSale x = Due.at("window 7 2 2 9;whistle 3;");
        Due.is("no train", x.heard(), -1);
        x.train(5, 0);
        x.begin(0);
        Due.is("not yet", x.heard(), 0);
        x.waits(1);
        Due.is("not at 1", x.heard(), 0);
        x.waits(1);
        Due.is("at 2", x.heard(), 1);
        x.waits(9);
        Due.is("moved", x.heard(), -1);
        x.train(2, 0);
        Due.is("from 0 on", x.heard(), 1);
        WindowSale y = Due.at("window 7 2 2 9;");
        y.train(2, 0);
        Due.is("whistle 0", y.heard(), 0);
    }
}
