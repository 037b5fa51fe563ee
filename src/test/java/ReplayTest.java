import java.util.ArrayList;
import java.util.List;
import java.util.Random;

/** Promises 9 to 14, 38, 42 and 43 by replaying: undone, judged, lived and restored is as if done anew. */
public final class ReplayTest {
    public static void main(String[] args) {
        for (int run = 0; run < 300; run++) {
            Random random = new Random(run);
            String station = Model.random(random, 4).text();
            undone(random, station);
            logged(random, station);
        }
        Due.close("ReplayTest");
    }

    /** An act: which, and its numbers. */
    private static int[] act(Random random) {
        return new int[] {random.nextInt(5), random.nextInt(random.nextBoolean() ? 2 : 14), random.nextInt(9)};
    }

    private static int does(WindowSale x, int[] act) {
        switch (act[0]) {
            case 0:
                return x.train(2 * act[1], 2 * act[1]);
            case 1:
                return x.begin(act[1] % 10);
            case 2:
                return x.sell(act[2] % 2);
            case 3:
                return x.walk(act[2] % 2);
            default:
                return x.waits(1 + act[2]);
        }
    }

    private static String line(int[] act) {
        switch (act[0]) {
            case 0:
                return "train " + 2 * act[1] + ";";
            case 1:
                return "at " + act[1] % 10 + ";";
            case 2:
                return act[2] % 2 == 0 ? "fruit;" : "coin;";
            case 3:
                return act[2] % 2 == 1 ? "up;" : "down;";
            default:
                return "waits " + (1 + act[2]) + ";";
        }
    }

    private static void alike(String when, WindowSale x, WindowSale y) {
        for (int k = 0; k <= 10; k++) {
            Due.is(when + ": now(" + k + ")", x.now(k), y.now(k));
        }
        for (int w = 0; w < y.count(0); w++) {
            int window = w;
            Due.is(when + ": bought", () -> x.window(window, 4), y.window(w, 4));
            Due.is(when + ": bought in all", () -> x.window(window, 5), y.window(w, 5));
        }
        Due.is(when + ": latest", x.latest(), y.latest());
        Due.is(when + ": heard", x.heard(), y.heard());
    }

    private static void undone(Random random, String station) {
        WindowSale x = Due.at(station);
        List<int[]> done = new ArrayList<>();
        int kept = 0;
        List<int[]> image = null;
        for (int step = 0; step < 60; step++) {
            int pick = random.nextInt(8);
            if (pick == 0) {
                Due.is("undo", x.undo(), kept > 0 ? kept - 1 : -1);
                if (kept > 0) {
                    kept--;
                    done.remove(done.size() - 1);
                }
            } else if (pick == 1 && random.nextInt(4) == 0) {
                x.image(1);
                image = new ArrayList<>(done);
            } else if (pick == 2 && random.nextInt(6) == 0) {
                Due.is("restore", x.restore(1), image != null);
                if (image != null) {
                    done = new ArrayList<>(image);
                    kept = 0;
                }
            } else {
                int[] act = act(random);
                if (does(x, act) == 0) {
                    done.add(act);
                    kept = Math.min(8, kept + 1);
                }
            }
        }
        WindowSale y = Due.at(station);
        for (int[] act : done) {
            Due.is("replayed", does(y, act), 0);
        }
        alike("replayed", x, y);
    }

    private static void logged(Random random, String station) {
        WindowSale x = Due.at(station);
        WindowSale y = Due.at(station);
        for (int round = 0; round < 12; round++) {
            List<int[]> acts = new ArrayList<>();
            StringBuilder text = new StringBuilder();
            for (int k = random.nextInt(6); k >= 0; k--) {
                int[] act = act(random);
                acts.add(act);
                text.append(line(act));
            }
            int judged = Due.log(x, text.toString(), 0);
            int[] told = {x.logged(0), x.logged(1), x.logged(2), x.logged(3)};
            alike("judged " + text, x, y);
            int pence = y.now(4);
            int wrong = -1;
            int why = 0;
            for (int k = 0; k < acts.size() && wrong < 0; k++) {
                int answer = does(y, acts.get(k));
                if (answer != 0) {
                    wrong = k;
                    why = answer == -1 ? 19 : 10 * acts.get(k)[0] + answer;
                }
            }
            Due.is("judged " + text, judged, wrong);
            Due.is("lived " + text, Due.log(x, text.toString(), 1), wrong);
            int[] due = {why, wrong < 0 ? acts.size() : wrong, y.now(4) - pence, y.now(3)};
            for (int k = 0; k < 4; k++) {
                Due.is("judged: logged(" + k + ")", told[k], due[k]);
                Due.is("lived: logged(" + k + ")", x.logged(k), due[k]);
            }
            alike("lived " + text, x, y);
        }
    }
}
