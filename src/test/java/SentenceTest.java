/** Promises 40 to 43: what may be said of which WINDOW, images. */
public final class SentenceTest {
    private static final String FOUR = "window 10 2 2 20;window 6 3 1 6;window 20 4 1 30;window 6 1 0 99;walk 1;";

    public static void main(String[] args) {
        saidOf();
        joins();
        scenes();
        faults();
        many();
        images();
        imagesKeepAll();
        Due.close("SentenceTest");
    }

    /** Says a text of the WINDOWS of FOUR, given as bits. */
    private static void says(WindowSale x, String text, int ones, int bits) {
        Due.is("sentence '" + text + "'", Due.sentence(x, text), ones);
        Due.is("fault of '" + text + "'", x.fault(), 0);
        Due.is("said of '" + text + "'", x.said(-1), Integer.bitCount(bits));
        int k = 0;
        for (int w = 0; w < 10; w++) {
            if ((bits >> w & 1) == 1) {
                Due.is("said(" + k + ") of '" + text + "'", x.said(k), w);
                k++;
            }
        }
        Due.is("said behind the last of '" + text + "'", x.said(k), -1);
        Due.is("said(-2) of '" + text + "'", x.said(-2), -1);
    }

    private static void saidOf() {
        WindowSale x = Due.at(FOUR);
        Due.is("no SENTENCE", x.said(-1), -1);
        Due.is("no SENTENCE, 0", x.said(0), -1);
        says(x, "open", 1, 0b0111);
        says(x, "fair", 1, 0b1001);
        says(x, "ahead", 1, 0);
        says(x, "price < 10", 1, 0b1010);
        says(x, "price = 10", 1, 0b0001);
        says(x, "price>10", 1, 0b0100);
        says(x, "takes = 3", 1, 0b0010);
        says(x, "takes > 1", 1, 0b0111);
        says(x, "bought = 0", 1, 0b1111);
        says(x, "bought > 0", 1, 0);
        says(x, "number < 2", 1, 0b0011);
        says(x, "number = 003", 1, 0b1000);
        says(x, "number < 999", 1, 0b1111);
        says(x, "\n open\n", 1, 0b0111);
    }

    private static void joins() {
        WindowSale x = Due.at(FOUR);
        says(x, "open and not fair", 3, 0b0110);
        says(x, "not open", 2, 0b1000);
        says(x, "not not open", 3, 0b0111);
        says(x, "number = 3 or number = 0 and price = 6", 3, 0b1000);
        says(x, "(number = 3 or number = 0) and price = 6", 4, 0b1000);
        says(x, "number = 0 or number = 3 and price = 6", 3, 0b1001);
        says(x, "(number = 0 or number = 3) and price = 6", 4, 0b1000);
        says(x, "not number = 0 and number < 3", 3, 0b0110);
        says(x, "not (number = 0 and number < 3)", 4, 0b1110);
        says(x, "not number = 1 or number = 1", 3, 0b1111);
        says(x, "number = 0 or number = 1 or number = 2", 3, 0b0111);
        says(x, "((open))", 3, 0b0111);
        says(x, "open and fair and price > 5 or number = 2 and open", 5, 0b0101);
    }

    private static void scenes() {
        WindowSale x = Due.at(FOUR);
        x.train(30, 0);
        says(x, "ahead", 1, 0);
        x.begin(1);
        says(x, "ahead", 1, 0b1100);
        says(x, "open", 1, 0b0111);
        x.sell(0);
        says(x, "open", 1, 0b0101);
        Due.is("the walk", x.walk(1), 0);
        Due.is("the SENTENCE looks anew", x.said(-1), 2);
        says(x, "bought = 1", 1, 0b0010);
        says(x, "ahead", 1, 0b1000);
        x.undo();
        Due.is("behind undo", x.said(-1), 2);
        x.waits(60);
        x.train(5, 0);
        says(x, "bought = 1", 1, 0);
    }

    private static void fault(String text, int place, int kind) {
        WindowSale x = Due.at(FOUR);
        Due.sentence(x, "number = 2");
        Due.is("sentence '" + text + "'", Due.sentence(x, text), -1 - place);
        Due.is("fault of '" + text + "'", x.fault(), kind);
        Due.is("it stays behind '" + text + "'", x.said(0), 2);
        Due.is("the tape behind '" + text + "'", x.count(11), 0);
    }

    private static void faults() {
        fault("", 0, 1);
        fault("  ", 2, 1);
        fault("open open", 5, 1);
        fault("open and", 8, 1);
        fault("open or or open", 8, 1);
        fault("and open", 0, 1);
        fault("not", 3, 1);
        fault("(open", 5, 1);
        fault("open)", 4, 1);
        fault("()", 1, 1);
        fault("price", 5, 1);
        fault("price 5", 6, 1);
        fault("price <", 7, 1);
        fault("price < open", 8, 1);
        fault("price < = 5", 8, 1);
        fault("price < 1000", 8, 1);
        fault("price ; 5", 6, 1);
        fault("open;", 4, 1);
        fault("worth > 5", 0, 1);
        fault("opens", 0, 1);
        fault("nummer > 1", 0, 1);
        fault("num > 1", 0, 1);
        fault("open an fair", 5, 1);
        fault("open orr fair", 5, 1);
        fault("Open", 0, 1);
        fault("open < 5", 5, 1);
        fault(" ".repeat(201), 200, 1);
        fault("open" + " ".repeat(197), 200, 1);
        fault(" ".repeat(198) + "open", 200, 1);
        fault(" ".repeat(198) + "opem", 198, 1);
        WindowSale x = Due.at(FOUR);
        says(x, " ".repeat(196) + "open", 1, 0b0111);
    }

    private static void many() {
        WindowSale x = Due.at(FOUR);
        says(x, "open" + " or open".repeat(19), 20, 0b0111);
        says(x, "open" + " and open".repeat(19), 20, 0b0111);
        fault("open" + " or open".repeat(20), 160, 4);
        fault("open" + " or open".repeat(19) + " or x", 160, 1);
        fault("open" + " or open".repeat(19) + " or (", 160, 4);
        says(x, "not ".repeat(7) + "open", 8, 0b1000);
        fault("not ".repeat(8) + "open", 32, 4);
        fault("not ".repeat(8) + "x", 32, 1);
        says(x, "(".repeat(7) + "open" + ")".repeat(7), 8, 0b0111);
        fault("(".repeat(8) + "open" + ")".repeat(8), 8, 4);
        says(x, "(((((((open or open and open)))))))", 10, 0b0111);
        says(x, "(not (not (not open))) and (((((((fair)))))))", 15, 0b1000);
        fault("(not (not (not (not open))))", 20, 4);
        fault("((((((((", 8, 1);
        fault("(((((((((", 8, 4);
        fault("(((((((price = 1 and not fair)))))))", 25, 4);
    }

    private static void images() {
        WindowSale x = Due.at(FOUR);
        Due.is("restore(0) of nothing", x.restore(0), false);
        Due.is("image(2)", x.image(2), false);
        Due.is("image(-1)", x.image(-1), false);
        Due.is("image(1)", x.image(1), true);
        Due.is("restore(0) still", x.restore(0), false);
        Due.is("restore(2)", x.restore(2), false);
        Due.is("restore(-1)", x.restore(-1), false);
        Due.station(x, "window 1 1 1 1;");
        Due.is("restore(1)", x.restore(1), true);
        Due.is("WINDOWS", x.count(0), 4);
        Due.is("best anew", x.best(0), 0);
        Due.is("price", () -> x.window(2, 0), 20);
        Due.is("no train", x.now(1), -1);
        Due.is("no SENTENCE", x.said(-1), -1);
    }

    private static void imagesKeepAll() {
        WindowSale x = Due.at(FOUR + "shy 6;stands 30 1;");
        x.train(30, 77);
        x.begin(0);
        x.sell(0);
        Due.sentence(x, "number = 1");
        int bestPence = x.best(3);
        x.image(0);
        x.sell(1);
        int next = x.latest();
        Due.sentence(x, "open open");
        Due.log(x, "train 3;", 0);
        Due.station(x, "window 1 1 1 1;walk 9;");
        Due.tape(x, "abc");
        Due.is("restore", x.restore(0), true);
        Due.is("the tape stays", x.count(11), 3);
        Due.is("fault stays", x.fault(), 2);
        Due.is("logged stays", x.logged(0), 1);
        Due.is("nothing to undo", x.undo(), -1);
        Due.is("pence", x.now(4), 10);
        Due.is("SECOND", x.now(1), 2);
        Due.is("latest", x.latest(), 1);
        Due.is("the SENTENCE", x.said(0), 1);
        Due.is("bought", () -> x.window(0, 5), 1);
        Due.is("best", x.best(3), bestPence);
        x.end(0);
        x.sell(1);
        Due.is("the same draw", x.latest(), next);
        Due.is("an act can be undone", x.undo(), 0);
        Due.is("restore twice", x.restore(0), true);
        Due.is("as kept", x.now(1), 2);
        x.image(1);
        Due.station(x, "");
        x.image(0);
        Due.is("place 0 is new", x.restore(0), true);
        Due.is("empty", x.count(0), 0);
        Due.is("place 1", x.restore(1), true);
        Due.is("four", x.count(0), 4);
    }
}
