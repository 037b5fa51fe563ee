/** Promises 5, 38 and 39: a LOG judged or lived line by line. */
public final class LogTest {
    private static final String TWO = "window 7 2 2 9;window 5 3 1 9;walk 2;basket 3;honest 12;shy 0;";

    public static void main(String[] args) {
        judged();
        lived();
        reasons();
        faults();
        manyLines();
        otherLives();
        Due.close("LogTest");
    }

    private static void loggedIs(String when, WindowSale x, int... due) {
        for (int k = 0; k < 4; k++) {
            Due.is(when + ": logged(" + k + ")", x.logged(k), due[k]);
        }
    }

    private static void judged() {
        WindowSale x = Due.at(TWO);
        Due.is("ahead of any", x.logged(0), -1);
        Due.is("empty", Due.log(x, "", 0), -1);
        loggedIs("empty", x, 0, 0, 0, 0);
        Due.is("good", Due.log(x, "train 20; at 0; fruit; coin; up;\nfruit; waits 1; down;", 0), -1);
        loggedIs("good", x, 0, 8, 19, 0);
        Due.is("logged(4)", x.logged(4), -1);
        Due.is("logged(-1)", x.logged(-1), -1);
        Due.is("all stays", x.now(5), 0);
        Due.is("pence stay", x.now(4), 0);
        Due.is("no undo", x.undo(), -1);
        Due.is("no latest", x.latest(), 0);
    }

    private static void lived() {
        WindowSale x = Due.at(TWO);
        x.train(20, 0);
        x.begin(0);
        x.sell(0);
        Due.is("goes on from here", Due.log(x, "fruit;up;fruit;fruit;down;", 1), 3);
        loggedIs("goes on", x, 22, 3, 12, 0);
        Due.is("lived so far", x.now(4), 19);
        Due.is("SECOND", x.now(1), 9);
        Due.is("where", x.now(2), 1);
        Due.is("latest", x.latest(), 1);
        Due.is("undone as one", x.undo(), 3);
        Due.is("as ahead of it", x.now(1), 2);
        Due.is("pence", x.now(4), 7);
        loggedIs("logged stays", x, 22, 3, 12, 0);
        Due.is("late", Due.log(x, "waits 17; fruit; train 3; at 1; fruit;", 1), -1);
        loggedIs("late", x, 0, 5, 12, 2);
        Due.is("trains", x.now(5), 2);
        Due.is("RUN", x.now(7), 1);
        Due.is("the seed is N: coins of seed 5", Due.log(Due.at("window 7 2 2 9;"), "train 5; at 0; coin;", 1), -1);
        WindowSale y = Due.at("window 7 2 2 9;");
        y.train(5, 5);
        y.begin(0);
        y.sell(1);
        int draw = y.latest();
        WindowSale z = Due.at("window 7 2 2 9;");
        Due.log(z, "train 5; at 0; coin;", 1);
        Due.is("as by train(5, 5)", z.latest(), draw);
    }

    private static void wrong(String text, int line, int why) {
        WindowSale x = Due.at(TWO);
        Due.is("log '" + text + "'", Due.log(x, text, 0), line);
        Due.is("why of '" + text + "'", x.logged(0), why);
        Due.is("lines of '" + text + "'", x.logged(1), line);
        Due.is("fault of '" + text + "'", x.fault(), 0);
    }

    private static void reasons() {
        wrong("train 3; train 4;", 1, 1);
        wrong("at 0;", 0, 11);
        wrong("train 9; at 0; at 1;", 2, 12);
        wrong("at 2;", 0, 19);
        wrong("train 9; at 9;", 1, 19);
        wrong("fruit;", 0, 21);
        wrong("train 9; coin;", 1, 21);
        wrong("train 60; at 0; fruit; fruit; up; coin; fruit;", 6, 22);
        wrong("train 60; at 0; fruit; fruit; fruit;", 4, 23);
        wrong("up;", 0, 31);
        wrong("train 9; down;", 1, 31);
        wrong("train 9; at 0; down;", 2, 32);
        wrong("train 9; at 1; up;", 2, 32);
        wrong("waits 1;", 0, 41);
        wrong("train 0; at 0;", 1, 11);
        wrong("train 0; train 60; at 1; waits 60; waits 1;", 4, 41);
    }

    private static void fault(String text, int place, int kind) {
        WindowSale x = Due.at(TWO);
        Due.log(x, "up;", 0);
        Due.is("log '" + text + "'", Due.log(x, text, 1), -2 - place);
        Due.is("fault of '" + text + "'", x.fault(), kind);
        loggedIs("the latest without a FAULT", x, 31, 0, 0, 0);
        Due.is("nothing lived", x.undo(), -1);
        Due.is("the tape is empty", x.count(11), 0);
    }

    private static void faults() {
        fault(";", 0, 1);
        fault("up", 2, 1);
        fault("up  ", 4, 1);
        fault("up 1;", 3, 1);
        fault("train;", 5, 1);
        fault("train 61;", 6, 2);
        fault("at 10;", 3, 2);
        fault("waits 0;", 6, 2);
        fault("waits 61;", 6, 2);
        fault("waits up;", 6, 1);
        fault("fruits;", 0, 1);
        fault("wxits 1;", 0, 1);
        fault("wait 1;", 0, 1);
        fault("fruit;window 1 1 1 1;", 6, 1);
        fault("train 5; at 0; fruit; <", 22, 1);
        fault(" ".repeat(401), 400, 1);
        fault(" ".repeat(398) + "up;", 400, 1);
        fault(" ".repeat(398) + "upp;", 398, 1);
        WindowSale x = Due.at(TWO);
        Due.is("400 bytes", Due.log(x, " ".repeat(392) + "train 5;", 0), -1);
        loggedIs("400 bytes", x, 0, 1, 0, 3);
    }

    private static void manyLines() {
        WindowSale x = Due.at(TWO);
        String forty = "train 0;".repeat(40);
        Due.is("40 LINES", Due.log(x, forty, 1), -1);
        Due.is("40 trains", x.now(5), 40);
        Due.is("one act", x.undo(), 0);
        fault(forty + "up;", 320, 4);
        fault(forty + " upp;", 321, 1);
        fault(forty + ";", 320, 1);
        fault(forty + "train 99;", 320, 4);
    }

    private static void otherLives() {
        WindowSale x = Due.at(TWO);
        Due.log(x, "train 99;", 0);
        Due.is("fault", x.fault(), 2);
        Due.tape(x, "train 9;");
        Due.is("lives 2", x.log(2), -1000);
        Due.is("lives -1", x.log(-1), -1000);
        Due.is("the tape stays", x.count(11), 8);
        Due.is("fault stays", x.fault(), 2);
        Due.is("none logged", x.logged(0), -1);
        Due.is("lives 1", x.log(1), -1);
        Due.is("fault 0", x.fault(), 0);
        Due.is("a train", x.now(0), 1);
        Due.station(x, "walk 9;");
        Due.is("fault of the station", x.fault(), 2);
        loggedIs("logged stays", x, 0, 1, 0, 3);
    }
}
