/** Promises 17 to 20, 31 to 33 and 35: what is likely, what a sale is worth, what was meant. */
public final class ChancesTest {
    private static final String THREE =
        "window 10 2 2 20;window 6 3 1 6;window 20 4 1 30;stands 5 2;stands 9 1;stands 12 3;"
        + "walk 2;basket 4;honest 3;shy 6;whistle 3;again 6;runner 3;cost 5;";

    public static void main(String[] args) {
        standsYet();
        gains();
        betterAndTrust();
        weeklyAndNeeds();
        meantIt();
        idleFrom();
        Due.close("ChancesTest");
    }

    private static void yetIs(WindowSale x, int n, int above, int below) {
        Due.fraction("yet(" + n + ")", () -> x.yet(n, 0), () -> x.yet(n, 1), above, below);
    }

    private static void standsYet() {
        WindowSale x = Due.at(THREE);
        Due.throwing("no train", () -> x.yet(0, 0));
        x.train(12, 0);
        x.begin(0);
        yetIs(x, 5, 1, 1);
        yetIs(x, 9, 2, 3);
        yetIs(x, 10, 1, 2);
        yetIs(x, 12, 1, 2);
        yetIs(x, 13, 0, 1);
        yetIs(x, 60, 0, 1);
        Due.throwing("n 61", () -> x.yet(61, 0));
        Due.throwing("n -1", () -> x.yet(-1, 0));
        Due.throwing("what 2", () -> x.yet(0, 2));
        x.waits(2);
        // 5 would have whistled from 2 on: it isn't that
        yetIs(x, 0, 1, 1);
        yetIs(x, 7, 1, 1);
        yetIs(x, 8, 3, 4);
        x.waits(7);
        yetIs(x, 3, 1, 1);
        yetIs(x, 4, 0, 1);
        x.waits(3);
        Due.throwing("moved", () -> x.yet(0, 0));
        // a train of 20 SECONDS is none of 'stands'
        x.train(20, 0);
        x.begin(0);
        x.waits(11);
        Due.throwing("none can be so: 12 would whistle", () -> x.yet(0, 0));
        WindowSale y = Due.at("window 5 1 1 5;stands 4 1;stands 8 1;");
        y.train(8, 0);
        y.begin(0);
        y.waits(3);
        // whistle 0: silence tells nothing
        yetIs(y, 2, 1, 2);
        y.waits(1);
        yetIs(y, 2, 1, 1);
        y.waits(60);
        y.train(60, 0);
        y.begin(0);
        y.waits(8);
        Due.throwing("none stands so long", () -> y.yet(0, 0));
    }

    private static void gainIs(WindowSale x, int way, int t, int above, int below) {
        Due.fraction("gain(0, " + way + ", " + t + ")",
            () -> x.gain(0, way, t, 0), () -> x.gain(0, way, t, 1), above, below);
    }

    private static void gains() {
        WindowSale x = Due.at("window 10 3 2 20;stands 4 1;stands 6 2;honest 4;shy 3;");
        gainIs(x, 0, 0, 10, 1);
        gainIs(x, 0, 1, 10, 1);
        gainIs(x, 0, 2, 70, 9);
        gainIs(x, 0, 3, 70, 9);
        gainIs(x, 0, 4, 20, 9);
        gainIs(x, 0, 5, 20, 9);
        gainIs(x, 0, 6, 0, 1);
        gainIs(x, 1, 0, 15, 2);
        gainIs(x, 1, 3, 15, 2);
        gainIs(x, 1, 4, 5, 1);
        gainIs(x, 1, 6, 0, 1);
        gainIs(x, 0, 60, 0, 1);
        Due.throwing("t -1", () -> x.gain(0, 0, -1, 0));
        Due.throwing("t 61", () -> x.gain(0, 0, 61, 0));
        Due.throwing("way 2", () -> x.gain(0, 2, 0, 0));
        Due.throwing("way -1", () -> x.gain(0, -1, 0, 0));
        Due.throwing("w 1", () -> x.gain(1, 0, 0, 0));
        Due.throwing("w -1", () -> x.gain(-1, 0, 0, 0));
        Due.throwing("what 2", () -> x.gain(0, 0, 0, 2));
        Due.throwing("what -1", () -> x.gain(0, 0, 0, -1));
    }

    private static void betterAndTrust() {
        WindowSale x = Due.at("window 10 3 2 20;window 10 3 0 20;stands 4 1;stands 6 2;honest 4;shy 3;");
        int[] due = {0, 0, 0, 0, 1, 1, 0, 0};
        for (int t = 0; t < due.length; t++) {
            Due.is("better(0, " + t + ")", x.better(0, t), due[t]);
        }
        Due.is("OFTEN does not matter", x.better(1, 4), 1);
        Due.is("better(0, 61)", x.better(0, 61), -1);
        Due.is("better(0, -1)", x.better(0, -1), -1);
        Due.is("better(2, 0)", x.better(2, 0), -1);
        Due.is("trust(0)", x.trust(0), 3);
        Due.is("trust(2)", x.trust(2), -1);
        Due.is("trust(-1)", x.trust(-1), -1);
        WindowSale y = Due.at("window 10 3 2 20;stands 2 1;honest 0;shy 12;");
        Due.is("no GAIN either way", y.better(0, 0), 0);
        Due.is("no trust", y.trust(0), -1);
        WindowSale z = Due.at("window 10 9 2 20;stands 5 1;honest 3;shy 3;");
        Due.is("COIN always", z.trust(0), -1);
        WindowSale alike = Due.at("window 10 9 2 20;stands 5 1;honest 6;shy 6;");
        Due.is("alike is FRUIT", alike.better(0, 2), 0);
        Due.is("trust while it stands", alike.trust(0), 4);
    }

    private static void weeklyAndNeeds() {
        WindowSale x = Due.at("window 10 1 1 20;window 10 1 1 19;window 10 1 1 10;window 10 1 1 0;"
            + "window 1 1 1 99;window 90 1 1 99;");
        int[] weekly = {1, 0, 0, 0, 1, 0};
        int[] needs = {6, 7, -1, -1, 1, 11};
        for (int w = 0; w < weekly.length; w++) {
            Due.is("weekly(" + w + ")", x.weekly(w), weekly[w]);
            Due.is("needs(" + w + ")", x.needs(w), needs[w]);
        }
        Due.is("weekly(6)", x.weekly(6), -1);
        Due.is("needs(-1)", x.needs(-1), -1);
        WindowSale y = Due.at("window 1 1 1 99;again 0;");
        Due.is("AGAIN 0", y.weekly(0), 0);
    }

    private static void meantIs(WindowSale x, int t, int above, int below) {
        Due.fraction("meant(0, " + t + ")",
            () -> x.meant(0, t, 0), () -> x.meant(0, t, 1), above, below);
    }

    private static void meantIt() {
        WindowSale x = Due.at(THREE);
        meantIs(x, 0, 1, 1);
        meantIs(x, 3, 1, 1);
        meantIs(x, 4, 1, 2);
        meantIs(x, 8, 4, 7);
        meantIs(x, 11, 1, 4);
        Due.throwing("12: none stands", () -> x.meant(0, 12, 0));
        Due.throwing("t 61", () -> x.meant(0, 61, 0));
        Due.throwing("t -1", () -> x.meant(0, -1, 0));
        Due.throwing("w 3", () -> x.meant(3, 0, 0));
        Due.throwing("what 2", () -> x.meant(0, 0, 2));
        WindowSale y = Due.at("window 5 2 1 5;stands 5 1;runner 0;");
        Due.throwing("nobody keeps it", () -> y.meant(0, 3, 0));
        meantIs(y, 4, 0, 1);
        WindowSale z = Due.at("window 5 2 1 5;stands 5 1;runner 12;");
        meantIs(z, 4, 1, 1);
    }

    private static void idleFrom() {
        Due.is("12", Due.at(THREE).idle(), 12);
        Due.is("60", Due.at("window 1 1 1 1;stands 60 1;").idle(), 60);
        Due.is("none without WINDOWS", Due.at("stands 60 1;").idle(), 0);
        Due.is("nobody pays late", Due.at("window 1 4 1 1;window 1 2 1 1;stands 9 1;honest 0;shy 12;").idle(), 8);
        Due.is("never", Due.at("window 1 4 1 1;stands 3 1;honest 0;shy 12;").idle(), 0);
    }
}
