import java.util.ArrayDeque;
import java.util.Arrays;
import java.util.Deque;
import java.util.List;

/** The whole class in its plainest form, in the document's order: what each call of any run answers. */
final class Whole {
    private static final int NONE = -1;

    /** All that is so; copied ahead of each act. */
    private static final class State {
        boolean came;
        int stays;
        int second = NONE;
        int where = NONE;
        int fruits;
        int pence;
        int trains;
        int seed;
        int latest;
        int[] sales = new int[6];
        int[] bought = new int[10];
        int[] inAll = new int[10];

        State copy() {
            State s = new State();
            s.came = came;
            s.stays = stays;
            s.second = second;
            s.where = where;
            s.fruits = fruits;
            s.pence = pence;
            s.trains = trains;
            s.seed = seed;
            s.latest = latest;
            s.sales = sales.clone();
            s.bought = bought.clone();
            s.inAll = inAll.clone();
            return s;
        }

        boolean stands() {
            return came && second < stays;
        }

        boolean acts() {
            return stands() && where != NONE;
        }
    }

    private StringBuilder tape = new StringBuilder();
    private Model place = new Model();
    private List<int[]> best;
    private State state = new State();
    private Deque<State> past = new ArrayDeque<>();
    private TextModel saying;
    private int fault;
    private int[] logged;
    private final Object[][] images = new Object[2][];

    Whole() {
        settle(TextModel.station(""));
    }

    private void settle(TextModel told) {
        Model m = new Model();
        m.windows = told.windows.size();
        m.price = column(told.windows, 0);
        m.takes = column(told.windows, 1);
        m.often = column(told.windows, 2);
        m.worth = column(told.windows, 3);
        List<int[]> stands = told.stands.isEmpty() ? List.of(new int[] {10, 1}) : told.stands;
        m.seconds = column(stands, 0);
        m.weight = column(stands, 1);
        m.walk = told.settings[0];
        m.basket = told.settings[1];
        m.honest = told.settings[2];
        m.shy = told.settings[3];
        m.whistle = told.settings[4];
        m.again = told.settings[5];
        m.runner = told.settings[6];
        m.cost = told.settings[7];
        place = m;
        best = null;
    }

    private static int[] column(List<int[]> rows, int k) {
        return rows.stream().mapToInt(row -> row[k]).toArray();
    }

    /** What a call answers; Due.THROWS for a NoSuchElementException. */
    long answer(String call, int[] a) {
        switch (call) {
            case "feed": return feed(a);
            case "end": return end(a[0]) ? 1 : 0;
            case "station": return station();
            case "fault": return fault;
            case "window": return window(a[0], a[1]);
            case "stand": return stand(a[0], a[1]);
            case "now": return now(a[0]);
            case "train": return within(a[0], 0, 60) ? acts(0, a[0], a[1]) : NONE;
            case "begin": return has(a[0]) ? acts(1, a[0], 0) : NONE;
            case "sell": return within(a[0], 0, 1) ? acts(2, a[0], 0) : NONE;
            case "walk": return within(a[0], 0, 1) ? acts(3, a[0], 0) : NONE;
            case "waits": return within(a[0], 1, 60) ? acts(4, a[0], 0) : NONE;
            case "undo": return undo();
            case "latest": return state.latest;
            case "heard": return !state.stands() ? NONE : hears(state.stays) ? 1 : 0;
            case "count": return count(a[0]);
            case "image": return image(a[0]) ? 1 : 0;
            case "restore": return restore(a[0]) ? 1 : 0;
            case "log": return log(a[0]);
            case "logged": return logged == null || !within(a[0], 0, 3) ? NONE : logged[a[0]];
            case "sentence": return sentence();
            case "said": return said(a[0]);
            default: return chance(call, a);
        }
    }

    private long chance(String call, int[] a) {
        switch (call) {
            case "yet": return yet(a[0], a[1]);
            case "gain": return gain(a[0], a[1], a[2], a[3]);
            case "better": return has(a[0]) && within(a[1], 0, 60) ? place.better(a[0], a[1]) : NONE;
            case "trust": return trust(a[0]);
            case "weekly": return !has(a[0]) ? NONE : fair(a[0], place.again) ? 1 : 0;
            case "needs": return needs(a[0]);
            case "meant": return meant(a[0], a[1], a[2]);
            case "idle": return idle();
            case "change": return change(a[0], a[1]);
            case "share": return share(a[0], a[1]);
            case "race":
                boolean told = has(a[0]) && has(a[1]) && within(a[2], 0, 60) && within(a[3], 0, 1);
                return told ? place.race(a[0], a[1], a[2])[a[3]] : NONE;
            default: return planned(call, a);
        }
    }

    private long planned(String call, int[] a) {
        switch (call) {
            case "plan":
                boolean such = has(a[0]) && within(a[1], 0, 1) && within(a[2], 0, 24);
                return such ? gained(place.planGain(a[0], a[1] == 1 ? place.windows - 1 : 0, a[2]), a[3]) : Due.THROWS;
            case "best": return best(a[0]);
            case "sale": return place.windows > 0 && within(a[1], 0, 2) && within(a[0], 0, sales().size() - 1)
                ? sales().get(a[0])[a[1]] : NONE;
            case "sellers": return place.windows == 0 ? NONE : place.sellers();
            case "earns": return within(a[0], 1, place.windows) && within(a[1], 0, a[0] - 1)
                ? gained(place.sellerGain(a[0], a[1]), a[2]) : Due.THROWS;
            case "curve": return curve(a[0], a[1]);
            case "border": return place.border();
            case "stood": return stood();
            case "drawn":
            case "luckiest": return drawn(call, a[0], a[1]);
            default: throw new IllegalStateException(call + " is not of the document");
        }
    }

    // ---- promises 2 to 8

    private int feed(int[] a) {
        if (tape.length() + 20 > 940) {
            return NONE;
        }
        for (int number : a) {
            tape.append((char) (number >> 24 & 255)).append((char) (number >> 16 & 255));
            tape.append((char) (number >> 8 & 255)).append((char) (number & 255));
        }
        return tape.length();
    }

    private boolean end(int n) {
        if (!within(n, 0, tape.length())) {
            return false;
        }
        tape.setLength(n);
        return true;
    }

    private String taken() {
        String text = tape.toString();
        tape.setLength(0);
        return text;
    }

    private int station() {
        TextModel told = TextModel.station(taken());
        fault = told.kind;
        if (told.place >= 0) {
            return -1 - told.place;
        }
        settle(told);
        state = new State();
        past.clear();
        saying = null;
        return told.many;
    }

    private long window(int w, int what) {
        if (!has(w) || !within(what, 0, 5)) {
            return Due.THROWS;
        }
        return new int[] {place.price[w], place.takes[w], place.often[w], place.worth[w],
            state.bought[w], state.inAll[w]}[what];
    }

    private int stand(int k, int what) {
        if (!within(k, 0, place.seconds.length - 1) || !within(what, 0, 1)) {
            return NONE;
        }
        return what == 0 ? place.seconds[k] : place.weight[k];
    }

    private int now(int what) {
        if (!within(what, 0, 10)) {
            return NONE;
        }
        return new int[] {state.stands() ? 1 : 0, state.second, state.where, state.fruits, state.pence, state.trains,
            state.sales[1], state.sales[2], state.sales[3], state.sales[4], state.sales[5]}[what];
    }

    // ---- promises 9 to 16

    private int acts(int act, int number, int seed) {
        State ahead = state.copy();
        int why = whyNot(state, act, number, seed);
        if (why == 0) {
            keeps(ahead);
        }
        return why;
    }

    private void keeps(State ahead) {
        past.addLast(ahead);
        if (past.size() > 8) {
            past.removeFirst();
        }
    }

    /** Does an act, if it can be done. */
    private int whyNot(State s, int act, int number, int seed) {
        if (act == 0) {
            return s.stands() ? 1 : comes(s, number, seed);
        }
        if (act == 1) {
            if (!s.stands()) {
                return 1;
            }
            if (s.where != NONE) {
                return 2;
            }
            s.where = number;
            return 0;
        }
        if (!s.acts()) {
            return 1;
        }
        if (act == 2) {
            return sells(s, number);
        }
        if (act == 3) {
            int next = s.where + (number == 1 ? 1 : -1);
            if (!has(next)) {
                return 2;
            }
            s.where = next;
        }
        s.second = Math.min(s.stays, s.second + (act == 3 ? place.walk : number));
        return 0;
    }

    private int comes(State s, int stands, int seed) {
        s.came = true;
        s.stays = stands;
        s.seed = seed;
        s.second = 0;
        s.where = NONE;
        s.fruits = place.basket;
        s.bought = new int[10];
        s.trains++;
        return 0;
    }

    private int sells(State s, int way) {
        int w = s.where;
        if (s.fruits == 0) {
            return 2;
        }
        if (s.bought[w] >= place.often[w]) {
            return 3;
        }
        boolean moves = s.second + place.takes[w] > s.stays;
        int result = moves ? way == 1 ? 4 : 2 : 1;
        if (way == 1 || moves) {
            s.seed = s.seed * 1103515245 + 12345;
            int draw = (s.seed >>> 8) % 12;
            result = way == 1 && draw < place.shy ? 5 : way == 0 && draw >= place.honest ? 3 : result;
        }
        s.sales[result]++;
        s.latest = result;
        s.pence += result == 1 || result == 2 || result == 4 ? place.price[w] : 0;
        if (result <= 3) {
            s.fruits--;
            s.bought[w]++;
            s.inAll[w]++;
        }
        s.second = Math.min(s.stays, s.second + place.takes[w]);
        return 0;
    }

    private int undo() {
        if (past.isEmpty()) {
            return NONE;
        }
        state = past.removeLast();
        return past.size();
    }

    private boolean hears(int stays) {
        return state.second >= stays - place.whistle;
    }

    // ---- promises 17 to 33

    private long yet(int n, int what) {
        if (!state.stands() || !within(n, 0, 60) || !within(what, 0, 1)) {
            return Due.THROWS;
        }
        int all = 0;
        int more = 0;
        for (int k = 0; k < place.seconds.length; k++) {
            int left = place.seconds[k] - state.second;
            if (left > 0 && (place.whistle == 0 || hears(place.seconds[k]) == hears(state.stays))) {
                all += place.weight[k];
                more += left >= n ? place.weight[k] : 0;
            }
        }
        return all == 0 ? Due.THROWS : told(more, all, what);
    }

    private long gained(int gain, int what) {
        return told(gain, 12 * place.all(), what);
    }

    private static long told(int above, int below, int what) {
        if (!within(what, 0, 1)) {
            return Due.THROWS;
        }
        int by = below;
        while (above % by != 0 || below % by != 0) {
            by--;
        }
        return what == 0 ? above / by : below / by;
    }

    private long gain(int w, int way, int t, int what) {
        boolean such = has(w) && within(way, 0, 1) && within(t, 0, 60);
        return such ? gained(place.gain(w, way, t), what) : Due.THROWS;
    }

    private int trust(int w) {
        int last = NONE;
        for (int t = 0; t <= 60 && has(w); t++) {
            last = place.better(w, t) == 0 && place.gain(w, 0, t) > 0 ? t : last;
        }
        return last;
    }

    private boolean fair(int w, int again) {
        return (place.worth[w] - place.price[w]) * again >= place.price[w] * (12 - again);
    }

    private int needs(int w) {
        int again = 0;
        while (has(w) && again <= 11 && !fair(w, again)) {
            again++;
        }
        return has(w) && again <= 11 ? again : NONE;
    }

    private long meant(int w, int t, int what) {
        if (!has(w) || !within(t, 0, 60)) {
            return Due.THROWS;
        }
        int runners = 0;
        int all = 0;
        for (int k = 0; k < place.seconds.length; k++) {
            boolean began = place.seconds[k] > t;
            boolean moved = began && place.seconds[k] < t + place.takes[w];
            runners += began ? place.weight[k] * place.runner : 0;
            all += began ? place.weight[k] * (moved ? 12 : place.runner) : 0;
        }
        return all == 0 ? Due.THROWS : told(runners, all, what);
    }

    private int idle() {
        int t = 0;
        for (int w = 0; w < place.windows; w++) {
            while (t < 60 && place.gain(w, 0, t) + place.gain(w, 1, t) > 0) {
                t++;
            }
        }
        return t;
    }

    private int change(int w, int coin) {
        if (!has(w) || !within(coin, 1, 999)) {
            return NONE;
        }
        int there = state.acts() ? state.fruits : place.basket;
        int fruits = 0;
        while (fruits < there && fruits < place.often[w] - state.bought[w] && (fruits + 1) * place.price[w] <= coin) {
            fruits++;
        }
        return 1000 * fruits + coin - fruits * place.price[w];
    }

    private int share(int a, int b) {
        if (!has(a) || !has(b)) {
            return NONE;
        }
        int bits = 0;
        for (int w = a; w < place.windows; w++) {
            boolean otherComes = w <= b;
            bits |= !otherComes || (w - a) * place.walk <= (b - w) * place.walk ? 1 << w : 0;
        }
        return bits;
    }

    // ---- promises 21 to 26, 34, 36, 37

    private List<int[]> sales() {
        if (best == null) {
            best = place.bestPlan();
        }
        return best.subList(Math.min(1, best.size()), best.size());
    }

    private int penceUntil(int last) {
        int pence = 0;
        for (int[] sale : sales()) {
            pence += sale[1] + place.takes[sale[0]] <= last ? place.price[sale[0]] : 0;
        }
        return pence;
    }

    private int best(int what) {
        if (place.windows == 0 || !within(what, 0, 4)) {
            return NONE;
        }
        int end = 0;
        for (int[] sale : sales()) {
            end = sale[1] + place.takes[sale[0]];
        }
        int many = sales().size();
        return new int[] {best.get(0)[0], best.get(0)[1], many, penceUntil(Integer.MAX_VALUE), end}[what];
    }

    private long curve(int n, int what) {
        int all = 0;
        for (int k = 0; k < n && n <= place.windows; k++) {
            all += place.sellerGain(n, k);
        }
        return within(n, 1, place.windows) ? gained(all, what) : Due.THROWS;
    }

    private int stood() {
        String text = taken();
        if (text.length() != 2) {
            return NONE;
        }
        int bits = 0;
        for (int k = 0; k < place.seconds.length; k++) {
            bits |= penceUntil(place.seconds[k]) == text.charAt(0) * 256 + text.charAt(1) ? 1 << k : 0;
        }
        return bits;
    }

    private int drawn(String call, int n, int seed) {
        if (!within(n, 1, 60) || place.windows == 0) {
            return NONE;
        }
        int[] pence = place.drawn(n, seed);
        return call.equals("drawn") ? Arrays.stream(pence).sum() : Arrays.stream(pence).max().getAsInt();
    }

    // ---- promises 38 to 44

    private int log(int lives) {
        if (!within(lives, 0, 1)) {
            return -1000;
        }
        TextModel told = TextModel.log(taken());
        fault = told.kind;
        if (told.place >= 0) {
            return -2 - told.place;
        }
        State lived = state.copy();
        int why = 0;
        int line = 0;
        while (line < told.acts.size() && why == 0) {
            why = lineWhyNot(lived, told.acts.get(line));
            line += why == 0 ? 1 : 0;
        }
        logged = new int[] {why, line, lived.pence - state.pence, lived.fruits};
        if (lives == 1) {
            keeps(state);
            state = lived;
        }
        return why == 0 ? NONE : line;
    }

    private int lineWhyNot(State s, int[] line) {
        int[] acts = {0, 1, 2, 2, 3, 3, 4};
        int act = acts[line[0]];
        int number = line[0] == 2 || line[0] == 5 ? 0 : line[0] == 3 || line[0] == 4 ? 1 : line[1];
        if (act == 1 && !has(number)) {
            return 19;
        }
        int why = whyNot(s, act, number, number);
        return why == 0 ? 0 : 10 * act + why;
    }

    private int sentence() {
        TextModel told = TextModel.sentence(taken());
        fault = told.kind;
        if (told.place >= 0) {
            return -1 - told.place;
        }
        saying = told;
        return told.many;
    }

    private int said(int k) {
        if (saying == null) {
            return NONE;
        }
        int seen = 0;
        for (int w = 0; w < place.windows; w++) {
            int[] numbers = {state.bought[w] < place.often[w] ? 1 : 0, fair(w, place.again) ? 1 : 0,
                state.where != NONE && w > state.where ? 1 : 0, place.price[w], place.takes[w], state.bought[w], w};
            if (saying.saying.holds(numbers)) {
                if (seen == k) {
                    return w;
                }
                seen++;
            }
        }
        return k == NONE ? seen : NONE;
    }

    private boolean image(int k) {
        if (!within(k, 0, 1)) {
            return false;
        }
        images[k] = new Object[] {place, state.copy(), saying};
        return true;
    }

    private boolean restore(int k) {
        if (!within(k, 0, 1) || images[k] == null) {
            return false;
        }
        place = (Model) images[k][0];
        best = null;
        state = ((State) images[k][1]).copy();
        saying = (TextModel) images[k][2];
        past.clear();
        return true;
    }

    private int count(int what) {
        if (!within(what, 0, 11)) {
            return NONE;
        }
        return new int[] {place.windows, place.seconds.length, place.all(), place.walk, place.basket, place.honest,
            place.shy, place.whistle, place.again, place.runner, place.cost, tape.length()}[what];
    }

    private boolean has(int w) {
        return within(w, 0, place.windows - 1);
    }

    private static boolean within(int number, int least, int most) {
        return number >= least && number <= most;
    }
}
