import java.util.List;
import java.util.Random;

/** Random STATIONS: the class against the plain Model, for promises 17 to 37. */
public final class ModelTest {
    public static void main(String[] args) {
        Random random = new Random(20261118);
        WindowSale used = new WindowSale();
        for (int round = 0; round < 400; round++) {
            Model m = Model.random(random, round % 40 == 0 ? 7 : 5);
            // every other one behind other STATIONS: nothing of them may be left
            WindowSale x = round % 2 == 0 ? Due.at(m.text()) : used;
            Due.is("station", Due.station(x, m.text()) > 0, true);
            chances(m, x);
            plans(m, x);
            best(m, x);
            two(m, x, random);
            days(m, x, random);
            stillStands(m, x, random);
        }
        tenWindows(random, used);
        Due.close("ModelTest");
    }

    /** As many WINDOWS as there may be: fewer rounds, for every plan of them is tried. */
    private static void tenWindows(Random random, WindowSale used) {
        for (int round = 0; round < 60; round++) {
            Model m = Model.random(random, 10);
            while (m.windows < 10) {
                m = Model.random(random, 10);
            }
            Due.is("station", Due.station(used, m.text()) > 0, true);
            plans(m, used);
            best(m, used);
            two(m, used, random);
            days(m, used, random);
        }
    }

    private static int divisor(int a, int b) {
        return b == 0 ? a : divisor(b, a % b);
    }

    private static void gainIs(String call, Model m, Due.Call above, Due.Call below, int due) {
        int unit = 12 * m.all();
        int by = divisor(unit, due);
        Due.fraction(call + " of " + m.text(), above, below, due / by, unit / by);
    }

    private static void chances(Model m, WindowSale x) {
        int idle = 0;
        for (int w = 0; w < m.windows; w++) {
            int window = w;
            int trust = -1;
            for (int t = 0; t <= 60; t++) {
                int at = t;
                for (int way = 0; way < 2; way++) {
                    int itsWay = way;
                    gainIs("gain", m, () -> x.gain(window, itsWay, at, 0), () -> x.gain(window, itsWay, at, 1),
                        m.gain(w, way, t));
                    if (m.gain(w, way, t) > 0) {
                        idle = Math.max(idle, t + 1);
                    }
                }
                Due.is("better", x.better(w, t), m.better(w, t));
                if (m.better(w, t) == 0 && m.gain(w, 0, t) > 0) {
                    trust = t;
                }
                meant(m, x, w, t);
            }
            Due.is("trust", x.trust(w), trust);
            int need = -1;
            for (int again = 11; again >= 0; again--) {
                if ((m.worth[w] - m.price[w]) * again >= m.price[w] * (12 - again)) {
                    need = again;
                }
            }
            Due.is("needs", x.needs(w), need);
            Due.is("weekly", x.weekly(w), need >= 0 && m.again >= need ? 1 : 0);
        }
        Due.is("idle", x.idle(), idle);
    }

    private static void meant(Model m, WindowSale x, int w, int t) {
        int runners = 0;
        int others = 0;
        for (int k = 0; k < m.seconds.length; k++) {
            if (m.seconds[k] > t) {
                runners += m.runner * m.weight[k];
                others += m.seconds[k] < t + m.takes[w] ? (12 - m.runner) * m.weight[k] : 0;
            }
        }
        if (runners + others == 0) {
            Due.throwing("meant", () -> x.meant(w, t, 0));
        } else {
            int by = divisor(runners + others, runners);
            Due.fraction("meant", () -> x.meant(w, t, 0), () -> x.meant(w, t, 1),
                runners / by, (runners + others) / by);
        }
    }

    private static void plans(Model m, WindowSale x) {
        for (int w = 0; w < m.windows; w++) {
            for (int up = 0; up < 2; up++) {
                for (int f = 0; f <= 24; f += f < 5 ? 1 : 6) {
                    int window = w;
                    int way = up;
                    int fruits = f;
                    gainIs("plan " + w + up + f, m, () -> x.plan(window, way, fruits, 0),
                        () -> x.plan(window, way, fruits, 1), m.planGain(w, up == 1 ? m.windows - 1 : 0, f));
                }
            }
        }
        Due.is("sellers of " + m.text(), x.sellers(), m.windows == 0 ? -1 : m.sellers());
        Due.is("border of " + m.text(), x.border(), m.border());
        for (int n = m.windows; n >= 1; n--) {
            int all = 0;
            int sellers = n;
            for (int k = 0; k < n; k++) {
                int seller = k;
                int gain = m.sellerGain(n, k);
                all += gain;
                gainIs("earns " + n + k, m, () -> x.earns(sellers, seller, 0),
                    () -> x.earns(sellers, seller, 1), gain);
            }
            gainIs("curve " + n, m, () -> x.curve(sellers, 0), () -> x.curve(sellers, 1), all);
        }
    }

    private static void best(Model m, WindowSale x) {
        List<int[]> plan = m.bestPlan();
        if (plan.isEmpty()) {
            Due.is("best without WINDOWS", x.best(0), -1);
            return;
        }
        int pence = 0;
        int end = 0;
        for (int k = 1; k < plan.size(); k++) {
            int[] sale = plan.get(k);
            pence += m.price[sale[0]];
            end = sale[1] + m.takes[sale[0]];
            for (int what = 0; what < 3; what++) {
                Due.is("sale(" + (k - 1) + ", " + what + ") of " + m.text(), x.sale(k - 1, what), sale[what]);
            }
        }
        int[] due = {plan.get(0)[0], plan.get(0)[1], plan.size() - 1, pence, end};
        for (int what = 0; what < 5; what++) {
            Due.is("best(" + what + ") of " + m.text(), x.best(what), due[what]);
        }
        for (int k = 0; k < m.seconds.length; k++) {
            int come = 0;
            for (int[] sale : plan.subList(1, plan.size())) {
                come += sale[1] + m.takes[sale[0]] <= m.seconds[k] ? m.price[sale[0]] : 0;
            }
            int bits = Due.stood(x, come);
            Due.is("stood", bits >> k & 1, 1);
            Due.is("stood otherwise", Due.stood(x, come + 1) >> k & 1, 0);
        }
    }

    private static void two(Model m, WindowSale x, Random random) {
        for (int a = 0; a < m.windows; a++) {
            for (int b = 0; b < m.windows; b++) {
                int last = random.nextInt(61);
                int[] pence = m.race(a, b, last);
                Due.is("race first", x.race(a, b, last, 0), pence[0]);
                Due.is("race second", x.race(a, b, last, 1), pence[1]);
                int bits = 0;
                for (int w = 0; w < m.windows; w++) {
                    int first = w < a ? Integer.MAX_VALUE : (w - a) * m.walk;
                    int second = w > b ? Integer.MAX_VALUE : (b - w) * m.walk;
                    bits |= w >= a && first <= second ? 1 << w : 0;
                }
                Due.is("share", x.share(a, b), bits);
            }
        }
    }

    private static void days(Model m, WindowSale x, Random random) {
        if (m.windows == 0) {
            return;
        }
        int n = 1 + random.nextInt(60);
        int seed = random.nextInt();
        int sum = 0;
        int most = 0;
        for (int pence : m.drawn(n, seed)) {
            sum += pence;
            most = Math.max(most, pence);
        }
        Due.is("drawn of " + m.text(), x.drawn(n, seed), sum);
        Due.is("luckiest of " + m.text(), x.luckiest(n, seed), most);
    }

    private static void stillStands(Model m, WindowSale x, Random random) {
        if (m.windows == 0) {
            return;
        }
        int stays = random.nextBoolean() ? m.seconds[0] : 1 + random.nextInt(60);
        x.train(stays, 1);
        x.begin(0);
        for (int second = 0; second < stays; second++) {
            int n = random.nextInt(61 - second);
            boolean heard = second >= stays - m.whistle;
            int all = 0;
            int more = 0;
            for (int k = 0; k < m.seconds.length; k++) {
                boolean same = m.whistle == 0 || second >= m.seconds[k] - m.whistle == heard;
                if (m.seconds[k] > second && same) {
                    all += m.weight[k];
                    more += m.seconds[k] - second >= n ? m.weight[k] : 0;
                }
            }
            Due.is("heard", x.heard(), heard ? 1 : 0);
            if (all == 0) {
                Due.throwing("yet", () -> x.yet(n, 0));
            } else {
                int by = divisor(all, more);
                Due.fraction("yet", () -> x.yet(n, 0), () -> x.yet(n, 1), more / by, all / by);
            }
            x.waits(1);
        }
        Due.is("moved", x.now(0), 0);
    }
}
