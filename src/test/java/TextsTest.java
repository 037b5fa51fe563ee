/** Promises 1 to 7 and 44: the tape, the STATION's text and what it tells. */
public final class TextsTest {
    private static final String WINDOW = "window 1 1 1 1;";

    public static void main(String[] args) {
        newObject();
        tapeGrowsAndEnds();
        stationTells();
        settings();
        faultsOfTokens();
        faultsOfNumbers();
        toldAgain();
        oneMore();
        tooLong();
        stationStaysWithFault();
        newStationClears();
        Due.close("TextsTest");
    }

    private static void newObject() {
        WindowSale x = new WindowSale();
        int[] due = {0, 1, 1, 1, 12, 6, 6, 0, 6, 3, 1, 0};
        for (int k = 0; k < due.length; k++) {
            Due.is("new: count(" + k + ")", x.count(k), due[k]);
        }
        Due.is("new: count(-1)", x.count(-1), -1);
        Due.is("new: count(12)", x.count(12), -1);
        Due.is("new: fault()", x.fault(), 0);
        Due.is("new: stand(0, 0)", x.stand(0, 0), 10);
        Due.is("new: stand(0, 1)", x.stand(0, 1), 1);
        Due.is("new: stand(0, 2)", x.stand(0, 2), -1);
        Due.is("new: stand(-1, 0)", x.stand(-1, 0), -1);
        Due.is("new: logged(0)", x.logged(0), -1);
        Due.is("new: NONE", WindowSale.NONE, -1);
    }

    private static void tapeGrowsAndEnds() {
        WindowSale x = new WindowSale();
        for (int k = 1; k <= 47; k++) {
            Due.is("feed " + k, x.feed(0, 0, 0, 0, 0), 20 * k);
        }
        Due.is("feed beyond 940", x.feed(0, 0, 0, 0, 0), -1);
        Due.is("count(11)", x.count(11), 940);
        Due.is("end(941)", x.end(941), false);
        Due.is("end(-1)", x.end(-1), false);
        Due.is("end(940)", x.end(940), true);
        Due.is("end(921)", x.end(921), true);
        Due.is("feed onto 921", x.feed(0, 0, 0, 0, 0), -1);
        Due.is("count(11) stays", x.count(11), 921);
        Due.is("end(920)", x.end(920), true);
        Due.is("feed onto 920", x.feed(0, 0, 0, 0, 0), 940);
        Due.is("end(Integer.MIN_VALUE)", x.end(Integer.MIN_VALUE), false);
        Due.is("end(0)", x.end(0), true);
        Due.is("end(1)", x.end(1), false);
        Due.is("count(11) empty", x.count(11), 0);
        x.feed(0x77616c6b, 0x20333b20, 0x80ffffff, 0, 0);
        Due.is("end(8)", x.end(8), true);
        Due.is("highest bytes first", x.station(), 1);
        Due.is("walk 3", x.count(3), 3);
    }

    private static void stationTells() {
        WindowSale x = new WindowSale();
        Due.is("empty", Due.station(x, ""), 0);
        Due.is("blanks", Due.station(x, " \n  \n"), 0);
        Due.is("lines", Due.station(x, "window 99 9 3 99;\nstands 60 9 ; stands 1 1;window 1 1 0 0;"), 4);
        int[][] due = {{99, 9, 3, 99, 0, 0}, {1, 1, 0, 0, 0, 0}};
        for (int w = 0; w < 2; w++) {
            for (int what = 0; what < 6; what++) {
                final int ww = w;
                final int k = what;
                Due.is("window(" + w + ", " + what + ")", () -> x.window(ww, k), due[w][what]);
            }
        }
        Due.throwing("window(2, 0)", () -> x.window(2, 0));
        Due.throwing("window(-1, 0)", () -> x.window(-1, 0));
        Due.throwing("window(0, 6)", () -> x.window(0, 6));
        Due.throwing("window(0, -1)", () -> x.window(0, -1));
        Due.is("stand(0, 0)", x.stand(0, 0), 60);
        Due.is("stand(0, 1)", x.stand(0, 1), 9);
        Due.is("stand(1, 0)", x.stand(1, 0), 1);
        Due.is("stand(2, 0)", x.stand(2, 0), -1);
        Due.is("stand(0, -1)", x.stand(0, -1), -1);
        Due.is("count(1)", x.count(1), 2);
        Due.is("count(2)", x.count(2), 10);
        Due.is("no blanks needed at ;", Due.station(x, "walk 2;cost 007;"), 2);
        Due.is("007", x.count(10), 7);
        Due.is("the old ones are gone", x.count(0), 0);
        Due.is("stands 10 again", x.stand(0, 0), 10);
    }

    private static void settings() {
        String[] words = {"walk", "basket", "honest", "shy", "whistle", "again", "runner", "cost"};
        int[] least = {1, 0, 0, 0, 0, 0, 0, 0};
        int[] most = {5, 24, 12, 12, 30, 11, 12, 99};
        for (int k = 0; k < words.length; k++) {
            WindowSale x = new WindowSale();
            Due.is(words[k] + " most", Due.station(x, words[k] + " " + most[k] + ";"), 1);
            Due.is(words[k] + " most told", x.count(3 + k), most[k]);
            Due.is(words[k] + " least", Due.station(x, words[k] + " " + least[k] + ";"), 1);
            Due.is(words[k] + " least told", x.count(3 + k), least[k]);
            fault(words[k] + " " + (most[k] + 1) + ";", words[k].length() + 1, 2);
            if (least[k] > 0) {
                fault(words[k] + " " + (least[k] - 1) + ";", words[k].length() + 1, 2);
            }
            fault(words[k] + ";", words[k].length(), 1);
            fault(words[k] + " 1", words[k].length() + 2, 1);
            fault(words[k] + " 1 1;", words[k].length() + 3, 1);
            fault(words[k] + " 1;" + words[k] + " 99;", words[k].length() + 3, 3);
        }
    }

    private static void fault(String text, int place, int kind) {
        WindowSale x = new WindowSale();
        Due.is("station '" + text + "'", Due.station(x, text), -1 - place);
        Due.is("fault of '" + text + "'", x.fault(), kind);
        Due.is("tape behind '" + text + "'", x.count(11), 0);
    }

    private static void faultsOfTokens() {
        fault(";", 0, 1);
        fault("walk 1;;", 7, 1);
        fault("  Walk 1;", 2, 1);
        fault("walk1;", 0, 1);
        fault("walk 1a;", 5, 1);
        fault("walk a;", 5, 1);
        fault("walk 0001;", 5, 1);
        fault("walk 1000;", 5, 1);
        fault("walk (", 5, 1);
        fault("walk 1.", 6, 1);
        fault("walk\t1;", 4, 1);
        fault("walk\r1;", 4, 1);
        fault("walk " + (char) 233 + ";", 5, 1);
        fault("whistles 1;", 0, 1);
        fault("train 1;", 0, 1);
        fault("5;", 0, 1);
        fault("wal 1;", 0, 1);
        fault("walks 1;", 0, 1);
        fault("walkz 1;", 0, 1);
        fault("xtands 5 1;", 0, 1);
        fault("standx 5 1;", 0, 1);
        fault("stand 5 1;", 0, 1);
        fault("standsx 5 1;", 0, 1);
        fault("walk 1;  ", 9, 0, 1);
        fault("window 1 1 1;", 12, 1);
        fault("window 1 1 1 1 1;", 15, 1);
        fault("window 1 1 1 1", 14, 1);
        fault("window 1 1 1  ", 14, 1);
        fault("walk", 4, 1);
    }

    /** A text that has no FAULT after all: as many LINES as told. */
    private static void fault(String text, int length, int kind, int lines) {
        WindowSale x = new WindowSale();
        Due.is("length", text.length(), length);
        Due.is("station '" + text + "'", Due.station(x, text), lines);
        Due.is("fault of '" + text + "'", x.fault(), kind);
    }

    private static void faultsOfNumbers() {
        fault("window 0 1 1 1;", 7, 2);
        fault("window 100 1 1 1;", 7, 2);
        fault("window 1 0 1 1;", 9, 2);
        fault("window 1 10 1 1;", 9, 2);
        fault("window 1 1 4 1;", 11, 2);
        fault("window 1 1 1 100;", 13, 2);
        fault("stands 0 1;", 7, 2);
        fault("stands 61 1;", 7, 2);
        fault("stands 60 0;", 10, 2);
        fault("stands 60 10;", 10, 2);
        fault("stands 60;", 9, 1);
    }

    private static void toldAgain() {
        fault("stands 5 1;stands 5 2;", 18, 3);
        fault("stands 5 1;stands 05 77;", 18, 3);
        fault("stands 5 1;stands 6 1;stands 6 1;", 29, 3);
        fault("walk 1;cost 1;walk 1;", 14, 3);
    }

    private static void oneMore() {
        String ten = WINDOW.repeat(10);
        WindowSale x = new WindowSale();
        Due.is("ten WINDOWS", Due.station(x, ten), 10);
        fault(ten + WINDOW, 150, 4);
        fault(ten + " window", 151, 4);
        fault(ten + "windo", 150, 1);
        String six = "stands 1 1;stands 2 1;stands 3 1;stands 4 1;stands 5 1;stands 6 1;";
        Due.is("six 'stands'", Due.station(x, six), 6);
        Due.is("six WEIGHTS", x.count(2), 6);
        fault(six + "stands 1 1;", 66, 4);
    }

    private static void tooLong() {
        WindowSale x = new WindowSale();
        String blanks = " ".repeat(893);
        Due.is("900 bytes", Due.station(x, blanks + "walk 2;"), 1);
        fault(blanks + "walk 2; ", 900, 1);
        fault(" " + blanks + "walk 2;", 900, 1);
        fault(" ".repeat(901), 900, 1);
        fault(" ".repeat(940), 900, 1);
        Due.is("900 blanks", Due.station(x, " ".repeat(900)), 0);
        fault(" ".repeat(898) + "walk 2;", 900, 1);
        fault(" ".repeat(898) + "walx 2;", 898, 1);
        fault(" ".repeat(894) + "walk 222;", 899, 2);
        fault(" ".repeat(894) + "walk 2222;", 899, 1);
        fault(" ".repeat(899) + "walk 2;", 900, 1);
        fault(" ".repeat(900) + "walk 2;", 900, 1);
        fault(blanks + "walk 2;walk 2;", 900, 1);
        fault(" ".repeat(890) + "cost 1;" + "cost 1;", 897, 3);
        fault(" ".repeat(880) + "x" + " ".repeat(40), 880, 1);
    }

    private static void stationStaysWithFault() {
        WindowSale x = Due.at("window 5 2 1 9;walk 3;");
        x.train(9, 1);
        Due.sentence(x, "open");
        Due.is("a FAULT", Due.station(x, "walk 4;walk 4;"), -8);
        Due.is("fault", x.fault(), 3);
        Due.is("walk stays", x.count(3), 3);
        Due.is("window stays", () -> x.window(0, 0), 5);
        Due.is("train stays", x.now(0), 1);
        Due.is("SENTENCE stays", x.said(-1), 1);
        Due.is("undo stays", x.undo(), 0);
    }

    private static void newStationClears() {
        WindowSale x = Due.at("window 5 2 1 9;");
        x.train(9, 1);
        x.begin(0);
        x.sell(0);
        Due.sentence(x, "open");
        Due.is("pence", x.now(4), 5);
        Due.is("again", Due.station(x, "window 5 2 1 9;"), 1);
        int[] due = {0, -1, -1, 0, 0, 0, 0, 0, 0, 0, 0};
        for (int k = 0; k < due.length; k++) {
            Due.is("now(" + k + ") of a new STATION", x.now(k), due[k]);
        }
        Due.is("no SENTENCE", x.said(-1), -1);
        Due.is("nothing to undo", x.undo(), -1);
        Due.is("no latest", x.latest(), 0);
        Due.is("bought", () -> x.window(0, 4), 0);
        Due.is("bought in all", () -> x.window(0, 5), 0);
    }
}
