import java.util.ArrayList;
import java.util.List;
import java.util.Random;

/** The document's STATION in its plainest, slowest form: every plan is tried. */
final class Model {
    int windows;
    int[] price;
    int[] takes;
    int[] often;
    int[] worth;
    int[] seconds;
    int[] weight;
    int walk = 1;
    int basket = 12;
    int honest = 6;
    int shy = 6;
    int whistle = 0;
    int again = 6;
    int runner = 3;
    int cost = 1;

    static Model random(Random random, int mostWindows) {
        Model m = new Model();
        m.windows = random.nextInt(mostWindows + 1);
        m.price = new int[m.windows];
        m.takes = new int[m.windows];
        m.often = new int[m.windows];
        m.worth = new int[m.windows];
        boolean alike = random.nextInt(3) == 0;
        for (int w = 0; w < m.windows; w++) {
            m.price[w] = alike ? 5 : 1 + random.nextInt(99);
            m.takes[w] = 1 + random.nextInt(alike ? 2 : 9);
            m.often[w] = random.nextInt(4);
            m.worth[w] = random.nextInt(100);
        }
        int stands = 1 + random.nextInt(6);
        m.seconds = new int[stands];
        m.weight = new int[stands];
        int range = random.nextBoolean() ? 60 : 12;
        for (int k = 0; k < stands; k++) {
            boolean again;
            do {
                m.seconds[k] = 1 + random.nextInt(range);
                again = false;
                for (int j = 0; j < k; j++) {
                    again |= m.seconds[j] == m.seconds[k];
                }
            } while (again);
            m.weight[k] = 1 + random.nextInt(9);
        }
        m.walk = 1 + random.nextInt(5);
        m.basket = random.nextInt(random.nextBoolean() ? 6 : 25);
        m.honest = random.nextInt(13);
        m.shy = random.nextInt(13);
        m.whistle = random.nextInt(3) == 0 ? 0 : random.nextInt(31);
        m.again = random.nextInt(12);
        m.runner = random.nextInt(13);
        m.cost = random.nextInt(100);
        return m;
    }

    String text() {
        StringBuilder text = new StringBuilder();
        for (int w = 0; w < windows; w++) {
            text.append("window ").append(price[w]).append(' ').append(takes[w]).append(' ')
                .append(often[w]).append(' ').append(worth[w]).append(";\n");
        }
        for (int k = 0; k < seconds.length; k++) {
            text.append("stands ").append(seconds[k]).append(' ').append(weight[k]).append(";");
        }
        text.append("walk ").append(walk).append(";basket ").append(basket).append("; honest ").append(honest)
            .append(";shy ").append(shy).append(";whistle ").append(whistle).append(";again ").append(again)
            .append(";runner ").append(runner).append(";cost ").append(cost).append(';');
        return text.toString();
    }

    int all() {
        int sum = 0;
        for (int one : weight) {
            sum += one;
        }
        return sum;
    }

    /** GAIN in 12ths of all WEIGHTS, train by train. */
    int gain(int w, int way, int t) {
        int sum = 0;
        for (int k = 0; k < seconds.length; k++) {
            if (seconds[k] > t) {
                boolean clean = t + takes[w] <= seconds[k];
                int paid = way == 1 ? 12 - shy : clean ? 12 : honest;
                sum += price[w] * paid * weight[k];
            }
        }
        return sum;
    }

    int better(int w, int t) {
        return gain(w, 1, t) > gain(w, 0, t) ? 1 : 0;
    }

    /** The best PLAN along a list of WINDOWS: how many sales at each; its GAIN is put last. */
    int[] plan(int[] along, int fruits) {
        int[] found = new int[along.length + 1];
        found[along.length] = -1;
        tryAll(along, 0, 0, fruits, 0, new int[along.length], found);
        return found;
    }

    private void tryAll(int[] along, int k, int t, int fruits, int sum, int[] sold, int[] found) {
        if (k == along.length) {
            if (sum > found[along.length]) {
                System.arraycopy(sold, 0, found, 0, along.length);
                found[along.length] = sum;
            }
            return;
        }
        int w = along[k];
        int more = sum;
        for (int many = 0; many <= often[w] && many <= fruits; many++) {
            sold[k] = many;
            tryAll(along, k + 1, t + many * takes[w] + walk, fruits - many, more, sold, found);
            int at = t + many * takes[w];
            more += gain(w, better(w, at), at);
        }
    }

    static int[] along(int from, int to) {
        int[] row = new int[Math.abs(to - from) + 1];
        for (int k = 0; k < row.length; k++) {
            row[k] = from <= to ? from + k : from - k;
        }
        return row;
    }

    int planGain(int from, int to, int fruits) {
        int[] row = along(from, to);
        return plan(row, fruits)[row.length];
    }

    int rowGain(int first, int last) {
        if (first > last) {
            return 0;
        }
        return Math.max(planGain(first, last, basket), planGain(last, first, basket));
    }

    /** The BEST PLAN: its beginning, UP or DOWN, then {WINDOW, SECOND, way} of each sale. */
    List<int[]> bestPlan() {
        int most = -1;
        int[] begin = null;
        for (int w = 0; w < windows; w++) {
            for (int up = 1; up >= 0; up--) {
                int value = planGain(w, up == 1 ? windows - 1 : 0, basket);
                if (value > most) {
                    most = value;
                    begin = new int[] {w, up};
                }
            }
        }
        List<int[]> told = new ArrayList<>();
        if (begin == null) {
            return told;
        }
        told.add(begin);
        int[] row = along(begin[0], begin[1] == 1 ? windows - 1 : 0);
        int[] sold = plan(row, basket);
        int t = 0;
        for (int k = 0; k < row.length; k++) {
            for (int many = 0; many < sold[k]; many++) {
                told.add(new int[] {row[k], t, better(row[k], t)});
                t += takes[row[k]];
            }
            t += walk;
        }
        return told;
    }

    int sellerGain(int n, int k) {
        int first = 0;
        for (int j = 0; j < k; j++) {
            first += rowLength(n, j);
        }
        return rowGain(first, first + rowLength(n, k) - 1);
    }

    private int rowLength(int n, int k) {
        return (windows + n - 1 - k) / n;
    }

    int sellers() {
        int most = 0;
        for (int n = 1; n <= windows; n++) {
            boolean each = true;
            for (int k = 0; k < n; k++) {
                each &= sellerGain(n, k) >= cost * 12 * all();
            }
            if (each) {
                most = n;
            }
        }
        return most;
    }

    int border() {
        int found = 0;
        for (int b = 1; b <= windows; b++) {
            if (apart(b) < apart(found)) {
                found = b;
            }
        }
        return found;
    }

    private int apart(int b) {
        return Math.abs(rowGain(0, b - 1) - rowGain(b, windows - 1));
    }

    /** SECOND by SECOND: who stands where, who comes. */
    int[] race(int a, int b, int last) {
        int[] place = {a, b};
        int[] comes = {0, 0};
        int[] fruits = {basket, basket};
        int[] pence = {0, 0};
        int[][] came = new int[2][windows];
        for (int[] one : came) {
            java.util.Arrays.fill(one, Integer.MAX_VALUE);
        }
        for (int t = 0; t < 1000; t++) {
            for (int who = 0; who < 2; who++) {
                if (place[who] >= 0 && place[who] < windows && comes[who] == t) {
                    came[who][place[who]] = t;
                }
            }
            for (int who = 0; who < 2; who++) {
                int w = place[who];
                if (w < 0 || w >= windows || comes[who] != t) {
                    continue;
                }
                int other = came[1 - who][w];
                int time = t;
                if (t < other || t == other && who == 0) {
                    for (int k = 0; k < often[w] && fruits[who] > 0; k++) {
                        time += takes[w];
                        fruits[who]--;
                        pence[who] += time <= last ? price[w] : 0;
                    }
                }
                comes[who] = time + walk;
                place[who] += who == 0 ? 1 : -1;
            }
        }
        return pence;
    }

    /** Pence of each of n TRAINS. */
    int[] drawn(int n, int seed) {
        int[] pence = new int[n];
        List<int[]> plan = bestPlan();
        int x = seed;
        for (int k = 0; k < n; k++) {
            x = x * 1103515245 + 12345;
            int draw = (x >>> 8) % all();
            int which = 0;
            while (draw >= weight[which]) {
                draw -= weight[which];
                which++;
            }
            for (int[] sale : plan.subList(1, plan.size())) {
                if (sale[1] >= seconds[which]) {
                    continue;
                }
                boolean late = sale[1] + takes[sale[0]] > seconds[which];
                boolean paid = true;
                if (sale[2] == 1 || late) {
                    x = x * 1103515245 + 12345;
                    int twelfth = (x >>> 8) % 12;
                    paid = sale[2] == 1 ? twelfth >= shy : twelfth < honest;
                }
                pence[k] += paid ? price[sale[0]] : 0;
            }
        }
        return pence;
    }
}
