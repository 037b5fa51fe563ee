import java.util.Arrays;
import java.util.NoSuchElementException;

/** Sold through the windows of a train that stands nobody knows how long. */
public final class WindowSale {
    public static final int NONE = -1;

    private static final int MOST_TAPE = 940;
    private static final int MOST_STATION_BYTES = 900;
    private static final int MOST_LOG_BYTES = 400;
    private static final int MOST_SENTENCE_BYTES = 200;

    private static final int MOST_WINDOWS = 10;
    private static final int MOST_STANDS = 6;
    private static final int MOST_SECONDS = 60;
    private static final int MOST_FRUITS = 24;
    private static final int MOST_OFTEN = 3;
    private static final int FRUIT_STEPS = MOST_FRUITS + 1;
    private static final int TWELVE = 12;

    private static final int FRUIT = 0;
    private static final int COIN = 1;

    private static final int CLEAN = 1;
    private static final int RUN = 2;
    private static final int LOST = 3;
    private static final int KEPT = 4;
    private static final int NOT = 5;

    private static final int NO_TOKEN = 1;
    private static final int WRONG_NUMBER = 2;
    private static final int TOLD_AGAIN = 3;
    private static final int ONE_MORE = 4;

    private final Tape tape;
    private final Reader reader;
    private final Station place;
    private final Station draftPlace;
    private final Scene scene;
    private final Scene trial;
    private final Past past;
    private final Sentence saying;
    private final Sentence draftSaying;
    private final Plans plans;
    private final Days days;
    private final Racer climber;
    private final Racer descender;
    private final Log diary;
    private final Image firstImage;
    private final Image secondImage;
    private int latestFault;

    public WindowSale() {
        tape = new Tape();
        reader = new Reader(tape);
        place = new Station();
        draftPlace = new Station();
        scene = new Scene();
        trial = new Scene();
        past = new Past();
        saying = new Sentence();
        draftSaying = new Sentence();
        plans = new Plans(place);
        days = new Days();
        climber = new Racer();
        descender = new Racer();
        diary = new Log();
        firstImage = new Image();
        secondImage = new Image();
    }

    // ---- the tape and the STATION

    public int feed(int a, int b, int c, int d, int e) {
        if (!tape.hasRoom()) {
            return NONE;
        }
        tape.append(a);
        tape.append(b);
        tape.append(c);
        tape.append(d);
        tape.append(e);
        return tape.length;
    }

    public boolean end(int n) {
        if (n < 0 || n > tape.length) {
            return false;
        }
        tape.length = n;
        return true;
    }

    public int station() {
        reader.open(MOST_STATION_BYTES);
        boolean read = draftPlace.readFrom(reader);
        tape.length = 0;
        latestFault = reader.faultKind;
        if (!read) {
            return -1 - reader.faultPlace;
        }
        place.copyFrom(draftPlace);
        scene.clear();
        saying.clear();
        past.clear();
        plans.forget();
        return place.lines;
    }

    public int fault() {
        return latestFault;
    }

    public int window(int w, int what) throws NoSuchElementException {
        if (!place.has(w)) {
            throw new NoSuchElementException("no such window");
        }
        switch (what) {
            case 0:
                return place.priceOf(w);
            case 1:
                return place.takesOf(w);
            case 2:
                return place.oftenOf(w);
            case 3:
                return place.worthOf(w);
            case 4:
                return scene.boughtBy(w);
            case 5:
                return scene.boughtInAllBy(w);
            default:
                throw new NoSuchElementException("nothing such of a window");
        }
    }

    public int stand(int k, int what) {
        if (k < 0 || k >= place.stands || what < 0 || what > 1) {
            return NONE;
        }
        return what == 0 ? place.secondsOf(k) : place.weightOf(k);
    }

    // ---- the train and what he does

    public int now(int what) {
        switch (what) {
            case 0:
                return scene.isThere() ? 1 : 0;
            case 1:
                return scene.second;
            case 2:
                return scene.where;
            case 3:
                return scene.fruits;
            case 4:
                return scene.pence;
            case 5:
                return scene.trains;
            default:
                return what >= 6 && what <= 10 ? scene.salesOf(what - 5) : NONE;
        }
    }

    public int train(int stands, int seed) {
        if (stands < 0 || stands > MOST_SECONDS) {
            return NONE;
        }
        trial.copyFrom(scene);
        return keepIfDone(trial.comes(stands, seed, place));
    }

    public int begin(int w) {
        if (!place.has(w)) {
            return NONE;
        }
        trial.copyFrom(scene);
        return keepIfDone(trial.startsAt(w));
    }

    public int sell(int way) {
        if (way != FRUIT && way != COIN) {
            return NONE;
        }
        trial.copyFrom(scene);
        return keepIfDone(trial.sells(way, place));
    }

    public int walk(int up) {
        if (up != 0 && up != 1) {
            return NONE;
        }
        trial.copyFrom(scene);
        return keepIfDone(trial.walks(up, place));
    }

    public int waits(int n) {
        if (n < 1 || n > MOST_SECONDS) {
            return NONE;
        }
        trial.copyFrom(scene);
        return keepIfDone(trial.rests(n));
    }

    private int keepIfDone(int whyNot) {
        if (whyNot == 0) {
            keepTrial();
        }
        return whyNot;
    }

    private void keepTrial() {
        past.add(scene);
        scene.copyFrom(trial);
    }

    public int undo() {
        if (!past.takeBack(scene)) {
            return NONE;
        }
        return past.size;
    }

    public int latest() {
        return scene.lastSale;
    }

    public int heard() {
        if (!scene.isThere()) {
            return NONE;
        }
        return place.whistlesFor(scene.stays, scene.second) ? 1 : 0;
    }

    // ---- what is likely

    public int yet(int n, int what) throws NoSuchElementException {
        if (!isPart(what) || n < 0 || n > MOST_SECONDS || !scene.isThere()) {
            throw new NoSuchElementException("no such chance");
        }
        int all = place.weightThatMayBe(scene, 0);
        if (all <= 0) {
            throw new NoSuchElementException("none can be so");
        }
        return part(place.weightThatMayBe(scene, n), all, what);
    }

    public int gain(int w, int way, int t, int what) throws NoSuchElementException {
        if (!place.has(w) || (way != FRUIT && way != COIN) || !isSecond(t) || !isPart(what)) {
            throw new NoSuchElementException("no such sale");
        }
        return part(place.gainOf(w, way, t), place.unit(), what);
    }

    public int better(int w, int t) {
        if (!place.has(w) || !isSecond(t)) {
            return NONE;
        }
        return place.betterWay(w, t);
    }

    public int trust(int w) {
        if (!place.has(w)) {
            return NONE;
        }
        for (int t = MOST_SECONDS; t >= 0; t--) {
            if (place.betterWay(w, t) == FRUIT && place.gainOf(w, FRUIT, t) > 0) {
                return t;
            }
        }
        return NONE;
    }

    // ---- plans

    public int plan(int w, int up, int f, int what) throws NoSuchElementException {
        boolean told = place.has(w) && (up == 0 || up == 1) && f >= 0 && f <= MOST_FRUITS;
        if (!told || !isPart(what)) {
            throw new NoSuchElementException("no such plan");
        }
        return part(plans.startGain(up, w, f), place.unit(), what);
    }

    public int best(int what) {
        if (place.windows == 0) {
            return NONE;
        }
        plans.prepareBest();
        switch (what) {
            case 0:
                return plans.bestWindow;
            case 1:
                return plans.bestUp;
            case 2:
                return plans.sales;
            case 3:
                return plans.penceUntil(plans.lastEnd());
            case 4:
                return plans.lastEnd();
            default:
                return NONE;
        }
    }

    public int sale(int k, int what) {
        plans.prepareBest();
        if (k < 0 || k >= plans.sales) {
            return NONE;
        }
        switch (what) {
            case 0:
                return plans.saleWindow(k);
            case 1:
                return plans.saleSecond(k);
            case 2:
                return plans.saleWay(k);
            default:
                return NONE;
        }
    }

    public int sellers() {
        if (place.windows == 0) {
            return NONE;
        }
        plans.prepareGains();
        int most = 0;
        for (int n = 1; n <= place.windows; n++) {
            if (plans.allEarn(n)) {
                most = n;
            }
        }
        return most;
    }

    public int earns(int n, int k, int what) throws NoSuchElementException {
        if (n < 1 || n > place.windows || k < 0 || k >= n || !isPart(what)) {
            throw new NoSuchElementException("no such seller");
        }
        plans.prepareGains();
        return part(plans.sellerGain(n, k), place.unit(), what);
    }

    public int curve(int n, int what) throws NoSuchElementException {
        if (n < 1 || n > place.windows || !isPart(what)) {
            throw new NoSuchElementException("no such sellers");
        }
        plans.prepareGains();
        int all = 0;
        for (int k = 0; k < n; k++) {
            all += plans.sellerGain(n, k);
        }
        return part(all, place.unit(), what);
    }

    // ---- two who share

    public int share(int a, int b) {
        if (!place.has(a) || !place.has(b)) {
            return NONE;
        }
        int bits = 0;
        for (int w = a; w < place.windows; w++) {
            if (w > b || w - a <= b - w) {
                bits |= 1 << w;
            }
        }
        return bits;
    }

    public int race(int a, int b, int last, int who) {
        if (!place.has(a) || !place.has(b) || !isSecond(last) || who < 0 || who > 1) {
            return NONE;
        }
        climber.prepare(a, 1, place);
        descender.prepare(b, -1, place);
        for (int visit = 0; visit < 2 * MOST_WINDOWS; visit++) {
            // who comes at the same second is served behind the first one
            if (climber.isAhead(descender, place)) {
                climber.visit(descender, last, place);
            } else if (place.has(descender.where)) {
                descender.visit(climber, last, place);
            }
        }
        return who == 0 ? climber.pence : descender.pence;
    }

    public int border() {
        plans.prepareGains();
        int found = 0;
        int least = NONE;
        for (int w = 0; w <= place.windows; w++) {
            int apart = Math.abs(plans.rowGain(0, w - 1) - plans.rowGain(w, place.windows - 1));
            if (least == NONE || apart < least) {
                least = apart;
                found = w;
            }
        }
        return found;
    }

    public int change(int w, int coin) {
        if (!place.has(w) || coin < 1 || coin > 999) {
            return NONE;
        }
        int price = place.priceOf(w);
        int paid = price > 0 ? coin / price : 0;
        int there = scene.canAct() ? scene.fruits : place.basket();
        int wanted = Math.max(0, place.oftenOf(w) - scene.boughtBy(w));
        int fruits = Math.min(paid, Math.min(wanted, there));
        return 1000 * fruits + coin - fruits * price;
    }

    // ---- what holds once and weekly, and whether it was meant

    public int weekly(int w) {
        if (!place.has(w)) {
            return NONE;
        }
        return place.isFair(w, place.again()) ? 1 : 0;
    }

    public int needs(int w) {
        if (!place.has(w)) {
            return NONE;
        }
        for (int again = 0; again < TWELVE; again++) {
            if (place.isFair(w, again)) {
                return again;
            }
        }
        return NONE;
    }

    public int meant(int w, int t, int what) throws NoSuchElementException {
        if (!place.has(w) || !isSecond(t) || !isPart(what)) {
            throw new NoSuchElementException("no such sale");
        }
        int standing = place.weightFrom(t + 1);
        int moved = standing - place.weightFrom(t + place.takesOf(w));
        int runners = place.runner() * standing;
        int all = runners + (TWELVE - place.runner()) * moved;
        if (all <= 0) {
            throw new NoSuchElementException("it can't be");
        }
        return part(runners, all, what);
    }

    public int stood() {
        boolean told = tape.length == 2;
        int pence = 256 * tape.byteAt(0) + tape.byteAt(1);
        tape.length = 0;
        if (!told) {
            return NONE;
        }
        plans.prepareBest();
        int bits = 0;
        for (int k = 0; k < place.stands; k++) {
            if (plans.penceUntil(place.secondsOf(k)) == pence) {
                bits |= 1 << k;
            }
        }
        return bits;
    }

    public int idle() {
        for (int t = MOST_SECONDS - 1; t >= 0; t--) {
            for (int w = 0; w < place.windows; w++) {
                if (place.betterGain(w, t) > 0) {
                    return t + 1;
                }
            }
        }
        return 0;
    }

    // ---- days by draws

    public int drawn(int n, int seed) {
        if (!canDraw(n)) {
            return NONE;
        }
        plans.prepareBest();
        days.live(n, seed, place, plans);
        return days.total;
    }

    public int luckiest(int n, int seed) {
        if (!canDraw(n)) {
            return NONE;
        }
        plans.prepareBest();
        days.live(n, seed, place, plans);
        return days.most;
    }

    private boolean canDraw(int n) {
        return n >= 1 && n <= 60 && place.windows > 0;
    }

    // ---- the LOG

    public int log(int lives) {
        if (lives != 0 && lives != 1) {
            return -1000;
        }
        reader.open(MOST_LOG_BYTES);
        boolean read = diary.readFrom(reader);
        tape.length = 0;
        latestFault = reader.faultKind;
        if (!read) {
            return -2 - reader.faultPlace;
        }
        trial.copyFrom(scene);
        diary.judge(trial, place);
        if (lives == 1) {
            keepTrial();
        }
        return diary.why == 0 ? NONE : diary.done;
    }

    public int logged(int what) {
        if (!diary.judged) {
            return NONE;
        }
        switch (what) {
            case 0:
                return diary.why;
            case 1:
                return diary.done;
            case 2:
                return diary.pence;
            case 3:
                return diary.fruits;
            default:
                return NONE;
        }
    }

    // ---- the SENTENCE

    public int sentence() {
        reader.open(MOST_SENTENCE_BYTES);
        boolean read = draftSaying.readFrom(reader);
        tape.length = 0;
        latestFault = reader.faultKind;
        if (!read) {
            return -1 - reader.faultPlace;
        }
        saying.copyFrom(draftSaying);
        return saying.ones;
    }

    public int said(int k) {
        if (saying.ones == 0) {
            return NONE;
        }
        int bits = saying.windowsOf(place, scene);
        if (k == NONE) {
            return Integer.bitCount(bits);
        }
        int seen = 0;
        for (int w = 0; w < place.windows; w++) {
            if ((bits >> w & 1) == 1) {
                if (seen == k) {
                    return w;
                }
                seen++;
            }
        }
        return NONE;
    }

    // ---- images

    public boolean image(int k) {
        if (k != 0 && k != 1) {
            return false;
        }
        imageAt(k).keep(place, scene, saying);
        return true;
    }

    public boolean restore(int k) {
        if (k != 0 && k != 1) {
            return false;
        }
        Image kept = imageAt(k);
        if (!kept.holds) {
            return false;
        }
        place.copyFrom(kept.place);
        scene.copyFrom(kept.scene);
        saying.copyFrom(kept.saying);
        past.clear();
        plans.forget();
        return true;
    }

    private Image imageAt(int k) {
        return k == 0 ? firstImage : secondImage;
    }

    public int count(int what) {
        switch (what) {
            case 0:
                return place.windows;
            case 1:
                return place.stands;
            case 2:
                return place.weightFrom(0);
            case 11:
                return tape.length;
            default:
                return what >= 3 && what <= 10 ? place.settingOf(what - 3) : NONE;
        }
    }

    // ---- small helps

    private static boolean isSecond(int t) {
        return t >= 0 && t <= MOST_SECONDS;
    }

    private static boolean isPart(int what) {
        return what == 0 || what == 1;
    }

    /** One of the two numbers of a fraction in least terms. */
    private static int part(int above, int below, int what) {
        int a = Math.max(above, 0);
        int b = Math.max(below, 1);
        int divisor = b;
        int rest = a;
        for (int step = 0; step < 64 && rest > 0; step++) {
            int next = divisor % rest;
            divisor = rest;
            rest = next;
        }
        if (divisor <= 0) {
            return what == 0 ? a : b;
        }
        return what == 0 ? a / divisor : b / divisor;
    }

    private static int entry(int[] row, int k) {
        return k >= 0 && k < row.length ? row[k] : 0;
    }

    private static void put(int[] row, int k, int value) {
        if (k >= 0 && k < row.length) {
            row[k] = value;
        }
    }

    private static void copyRow(int[] from, int[] to) {
        int size = Math.min(from.length, to.length);
        for (int k = 0; k < size; k++) {
            to[k] = from[k];
        }
    }

    private static int nextSeed(int x) {
        return x * 1103515245 + 12345;
    }

    private static int drawOf(int x, int n) {
        return n > 0 ? (x >>> 8) % n : 0;
    }

    /** The bytes that were fed. */
    private static final class Tape {
        private final byte[] bytes = new byte[MOST_TAPE];
        private int length;

        boolean hasRoom() {
            return length + 20 <= MOST_TAPE;
        }

        void append(int number) {
            for (int shift = 24; shift >= 0; shift -= 8) {
                if (length >= 0 && length < bytes.length) {
                    bytes[length] = (byte) (number >>> shift);
                    length++;
                }
            }
        }

        int byteAt(int k) {
            return k >= 0 && k < length && k < bytes.length ? bytes[k] & 255 : 0;
        }
    }

    /** Reads the tape TOKEN by TOKEN, one ahead, and holds the first FAULT. */
    private static final class Reader {
        private static final int END = 0;
        private static final int BAD = 1;
        private static final int WORD = 2;
        private static final int NUMBER = 3;
        private static final int SIGN = 4;

        private final Tape tape;
        private int most;
        private int next;
        private int kind;
        private int start;
        private int size;
        private int number;
        private int faultKind;
        private int faultPlace;

        Reader(Tape tape) {
            this.tape = tape;
        }

        void open(int mostBytes) {
            most = mostBytes;
            next = 0;
            faultKind = 0;
            faultPlace = 0;
            step();
        }

        /** Goes on to the next TOKEN. */
        void step() {
            start = next;
            while (start < tape.length && isBlank(tape.byteAt(start))) {
                start++;
            }
            size = 0;
            if (start >= most && tape.length > most) {
                kind = BAD;
                start = most;
            } else if (start >= tape.length) {
                kind = END;
            } else if (isLetter(tape.byteAt(start)) || isDigit(tape.byteAt(start))) {
                readRun();
            } else {
                kind = isSign(tape.byteAt(start)) ? SIGN : BAD;
                next = start + 1;
            }
        }

        private void readRun() {
            int letters = 0;
            int digits = 0;
            number = 0;
            for (next = start; next < tape.length; next++) {
                int sign = tape.byteAt(next);
                if (isLetter(sign)) {
                    letters++;
                } else if (isDigit(sign)) {
                    digits++;
                    number = digits <= 3 ? 10 * number + sign - '0' : number;
                } else {
                    break;
                }
            }
            size = next - start;
            if (digits == 0 && letters <= 7) {
                kind = WORD;
            } else {
                kind = letters == 0 && digits <= 3 ? NUMBER : BAD;
            }
        }

        private static boolean isBlank(int sign) {
            return sign == ' ' || sign == '\n';
        }

        private static boolean isLetter(int sign) {
            return sign >= 'a' && sign <= 'z';
        }

        private static boolean isDigit(int sign) {
            return sign >= '0' && sign <= '9';
        }

        private static boolean isSign(int sign) {
            return sign == ';' || sign == '<' || sign == '=' || sign == '>' || sign == '(' || sign == ')';
        }

        boolean hasMore() {
            return kind != END;
        }

        boolean isAt(char sign) {
            return kind == SIGN && tape.byteAt(start) == sign;
        }

        /** Which of the words, with a blank between them, the TOKEN is; NONE: none of them. */
        int wordOf(String words) {
            if (kind != WORD) {
                return NONE;
            }
            int index = 0;
            int matched = 0;
            boolean same = true;
            for (int k = 0; k < words.length(); k++) {
                char sign = words.charAt(k);
                if (sign != ' ') {
                    same = same && matched < size && tape.byteAt(start + matched) == sign;
                    matched++;
                } else if (same && matched == size) {
                    return index;
                } else {
                    index++;
                    matched = 0;
                    same = true;
                }
            }
            return same && matched == size ? index : NONE;
        }

        /** Notes a FAULT at the TOKEN; false, so that a reader can end with it. */
        boolean refuse(int faultOfKind) {
            faultKind = faultOfKind;
            faultPlace = start;
            return false;
        }

        boolean takesSign(char sign) {
            if (!isAt(sign)) {
                return refuse(NO_TOKEN);
            }
            step();
            return true;
        }

        /** Whether the TOKEN is a NUMBER as told; it stays the TOKEN, for it may be told again. */
        boolean seesNumber(int least, int greatest) {
            if (kind != NUMBER) {
                return refuse(NO_TOKEN);
            }
            return number >= least && number <= greatest || refuse(WRONG_NUMBER);
        }
    }

    /** What a text told of the STATION, and the chances that follow from it. */
    private static final class Station {
        private static final String WORDS =
            "walk basket honest shy whistle again runner cost window stands";
        private static final int SETTINGS = 8;
        private static final int WINDOW_WORD = 8;
        private static final int STANDS_WORD = 9;
        private static final int[] LEAST = {1, 0, 0, 0, 0, 0, 0, 0};
        private static final int[] GREATEST = {5, 24, 12, 12, 30, 11, 12, 99};
        private static final int[] USUAL = {1, 12, 6, 6, 0, 6, 3, 1};

        private final int[] prices = new int[MOST_WINDOWS];
        private final int[] times = new int[MOST_WINDOWS];
        private final int[] oftens = new int[MOST_WINDOWS];
        private final int[] worths = new int[MOST_WINDOWS];
        private final int[] seconds = new int[MOST_STANDS];
        private final int[] weights = new int[MOST_STANDS];
        private final int[] settings = new int[SETTINGS];
        private int windows;
        private int stands;
        private int lines;
        private int toldSettings;

        Station() {
            clear();
            addUsualStand();
        }

        private void clear() {
            windows = 0;
            stands = 0;
            lines = 0;
            toldSettings = 0;
            copyRow(USUAL, settings);
        }

        private void addUsualStand() {
            if (stands == 0) {
                put(seconds, 0, 10);
                put(weights, 0, 1);
                stands = 1;
            }
        }

        void copyFrom(Station other) {
            copyRow(other.prices, prices);
            copyRow(other.times, times);
            copyRow(other.oftens, oftens);
            copyRow(other.worths, worths);
            copyRow(other.seconds, seconds);
            copyRow(other.weights, weights);
            copyRow(other.settings, settings);
            windows = other.windows;
            stands = other.stands;
            lines = other.lines;
            toldSettings = other.toldSettings;
        }

        boolean readFrom(Reader reader) {
            clear();
            while (lines < MOST_STATION_BYTES && reader.hasMore()) {
                if (!readLine(reader) || !reader.takesSign(';')) {
                    return false;
                }
                lines++;
            }
            addUsualStand();
            return true;
        }

        private boolean readLine(Reader reader) {
            int word = reader.wordOf(WORDS);
            if (word == WINDOW_WORD) {
                return readWindow(reader);
            }
            if (word == STANDS_WORD) {
                return readStands(reader);
            }
            return word == NONE ? reader.refuse(NO_TOKEN) : readSetting(reader, word);
        }

        private boolean readWindow(Reader reader) {
            if (windows >= MOST_WINDOWS) {
                return reader.refuse(ONE_MORE);
            }
            reader.step();
            boolean read = readInto(prices, windows, reader, 1, 99)
                && readInto(times, windows, reader, 1, 9)
                && readInto(oftens, windows, reader, 0, MOST_OFTEN)
                && readInto(worths, windows, reader, 0, 99);
            if (read) {
                windows++;
            }
            return read;
        }

        private boolean readStands(Reader reader) {
            if (stands >= MOST_STANDS) {
                return reader.refuse(ONE_MORE);
            }
            reader.step();
            if (!reader.seesNumber(1, MOST_SECONDS)) {
                return false;
            }
            for (int k = 0; k < stands; k++) {
                if (secondsOf(k) == reader.number) {
                    return reader.refuse(TOLD_AGAIN);
                }
            }
            put(seconds, stands, reader.number);
            reader.step();
            if (!readInto(weights, stands, reader, 1, 9)) {
                return false;
            }
            stands++;
            return true;
        }

        private boolean readSetting(Reader reader, int word) {
            if ((toldSettings >> word & 1) == 1) {
                return reader.refuse(TOLD_AGAIN);
            }
            toldSettings |= 1 << word;
            reader.step();
            return readInto(settings, word, reader, entry(LEAST, word), entry(GREATEST, word));
        }

        private static boolean readInto(int[] row, int k, Reader reader, int least, int greatest) {
            if (!reader.seesNumber(least, greatest)) {
                return false;
            }
            put(row, k, reader.number);
            reader.step();
            return true;
        }

        boolean has(int w) {
            return w >= 0 && w < windows;
        }

        int priceOf(int w) {
            return entry(prices, w);
        }

        int takesOf(int w) {
            return entry(times, w);
        }

        int oftenOf(int w) {
            return entry(oftens, w);
        }

        int worthOf(int w) {
            return entry(worths, w);
        }

        int secondsOf(int k) {
            return entry(seconds, k);
        }

        int weightOf(int k) {
            return entry(weights, k);
        }

        int settingOf(int k) {
            return entry(settings, k);
        }

        int walking() {
            return entry(settings, 0);
        }

        int basket() {
            return entry(settings, 1);
        }

        int honest() {
            return entry(settings, 2);
        }

        int shy() {
            return entry(settings, 3);
        }

        int whistle() {
            return entry(settings, 4);
        }

        int again() {
            return entry(settings, 5);
        }

        int runner() {
            return entry(settings, 6);
        }

        int cost() {
            return entry(settings, 7);
        }

        /** The WEIGHTS of those that stand so long at least. */
        int weightFrom(int least) {
            int sum = 0;
            for (int k = 0; k < stands && k < seconds.length && k < weights.length; k++) {
                if (seconds[k] >= least) {
                    sum += weights[k];
                }
            }
            return sum;
        }

        /** What all GAINS are counted in: 12ths of all WEIGHTS. */
        int unit() {
            return TWELVE * weightFrom(0);
        }

        int longest() {
            int found = 0;
            for (int k = 0; k < stands; k++) {
                found = Math.max(found, secondsOf(k));
            }
            return found;
        }

        /** The SECONDS of that one of 'stands' into whose WEIGHT the draw falls. */
        int secondsAtDraw(int draw) {
            int above = 0;
            for (int k = 0; k < stands; k++) {
                above += weightOf(k);
                if (draw < above) {
                    return secondsOf(k);
                }
            }
            return 0;
        }

        boolean whistlesFor(int stays, int second) {
            return second >= Math.max(0, stays - whistle());
        }

        /** The WEIGHTS of those that fit what he knows now, and stand so many SECONDS more. */
        int weightThatMayBe(Scene scene, int more) {
            boolean heardNow = whistlesFor(scene.stays, scene.second);
            int sum = 0;
            for (int k = 0; k < stands; k++) {
                boolean fits = secondsOf(k) > scene.second && secondsOf(k) - scene.second >= more;
                // without a whistle that is ahead of moving, silence tells nothing
                boolean soundsSo = whistle() == 0
                    || whistlesFor(secondsOf(k), scene.second) == heardNow;
                if (fits && soundsSo) {
                    sum += weightOf(k);
                }
            }
            return sum;
        }

        int gainOf(int w, int way, int t) {
            int standing = weightFrom(t + 1);
            if (way == COIN) {
                return priceOf(w) * (TWELVE - shy()) * standing;
            }
            int clean = weightFrom(t + takesOf(w));
            return priceOf(w) * (TWELVE * clean + honest() * (standing - clean));
        }

        int betterWay(int w, int t) {
            return gainOf(w, COIN, t) > gainOf(w, FRUIT, t) ? COIN : FRUIT;
        }

        int betterGain(int w, int t) {
            return Math.max(gainOf(w, FRUIT, t), gainOf(w, COIN, t));
        }

        boolean isFair(int w, int again) {
            return (worthOf(w) - priceOf(w)) * again >= priceOf(w) * (TWELVE - again);
        }
    }

    /** All that is so: the TRAIN, where he is, what was sold. */
    private static final class Scene {
        private final int[] results = new int[NOT + 1];
        private final int[] bought = new int[MOST_WINDOWS];
        private final int[] boughtInAll = new int[MOST_WINDOWS];
        private int stays;
        private int second = NONE;
        private int where = NONE;
        private int fruits;
        private int pence;
        private int trains;
        private int seed;
        private int lastSale;

        void clear() {
            Arrays.fill(results, 0);
            Arrays.fill(bought, 0);
            Arrays.fill(boughtInAll, 0);
            stays = 0;
            second = NONE;
            where = NONE;
            fruits = 0;
            pence = 0;
            trains = 0;
            seed = 0;
            lastSale = 0;
        }

        void copyFrom(Scene other) {
            copyRow(other.results, results);
            copyRow(other.bought, bought);
            copyRow(other.boughtInAll, boughtInAll);
            stays = other.stays;
            second = other.second;
            where = other.where;
            fruits = other.fruits;
            pence = other.pence;
            trains = other.trains;
            seed = other.seed;
            lastSale = other.lastSale;
        }

        boolean isThere() {
            return trains > 0 && second < stays;
        }

        boolean canAct() {
            return isThere() && where != NONE;
        }

        int boughtBy(int w) {
            return entry(bought, w);
        }

        int boughtInAllBy(int w) {
            return entry(boughtInAll, w);
        }

        int salesOf(int result) {
            return entry(results, result);
        }

        int comes(int stands, int itsSeed, Station station) {
            if (isThere()) {
                return 1;
            }
            Arrays.fill(bought, 0);
            stays = stands;
            seed = itsSeed;
            second = 0;
            where = NONE;
            fruits = station.basket();
            trains++;
            return 0;
        }

        int startsAt(int w) {
            if (!isThere()) {
                return 1;
            }
            if (where != NONE) {
                return 2;
            }
            where = w;
            return 0;
        }

        int sells(int way, Station station) {
            if (!canAct()) {
                return 1;
            }
            if (fruits <= 0) {
                return 2;
            }
            if (boughtBy(where) >= station.oftenOf(where)) {
                return 3;
            }
            int takes = station.takesOf(where);
            boolean late = second + takes > stays;
            int result = way == COIN ? coinResult(late, station) : fruitResult(late, station);
            book(result, station.priceOf(where));
            passes(takes);
            return 0;
        }

        private int coinResult(boolean late, Station station) {
            if (draw() < station.shy()) {
                return NOT;
            }
            return late ? KEPT : CLEAN;
        }

        private int fruitResult(boolean late, Station station) {
            if (!late) {
                return CLEAN;
            }
            return draw() < station.honest() ? RUN : LOST;
        }

        private int draw() {
            seed = nextSeed(seed);
            return drawOf(seed, TWELVE);
        }

        private void book(int result, int price) {
            put(results, result, salesOf(result) + 1);
            lastSale = result;
            if (result == CLEAN || result == RUN || result == KEPT) {
                pence += price;
            }
            if (result == CLEAN || result == RUN || result == LOST) {
                fruits--;
                put(bought, where, boughtBy(where) + 1);
                put(boughtInAll, where, boughtInAllBy(where) + 1);
            }
        }

        private void passes(int time) {
            second = Math.min(stays, second + time);
        }

        int walks(int up, Station station) {
            if (!canAct()) {
                return 1;
            }
            int next = up == 1 ? where + 1 : where - 1;
            if (!station.has(next)) {
                return 2;
            }
            where = next;
            passes(station.walking());
            return 0;
        }

        int rests(int n) {
            if (!canAct()) {
                return 1;
            }
            passes(n);
            return 0;
        }
    }

    /** The latest scenes ahead of acts, for undoing. */
    private static final class Past {
        private static final int MOST_KEPT = 8;

        private final Scene[] scenes = new Scene[MOST_KEPT];
        private int oldest;
        private int size;

        Past() {
            for (int k = 0; k < scenes.length; k++) {
                scenes[k] = new Scene();
            }
        }

        void clear() {
            oldest = 0;
            size = 0;
        }

        void add(Scene scene) {
            if (size >= MOST_KEPT) {
                oldest = (oldest + 1) % MOST_KEPT;
                size = MOST_KEPT - 1;
            }
            sceneAt((oldest + size) % MOST_KEPT, scene).copyFrom(scene);
            size++;
        }

        boolean takeBack(Scene scene) {
            if (size <= 0) {
                return false;
            }
            size--;
            scene.copyFrom(sceneAt((oldest + size) % MOST_KEPT, scene));
            return true;
        }

        private Scene sceneAt(int k, Scene otherwise) {
            if (k < 0 || k >= scenes.length || scenes[k] == null) {
                return otherwise;
            }
            return scenes[k];
        }
    }

    /** What may be said of WINDOWS: its ONES, each behind those that it joins. */
    private static final class Sentence {
        private static final String WORDS = "not open fair ahead price takes bought number";
        private static final int MOST_ONES = 20;
        private static final int MOST_WITHIN = 8;
        private static final int MOST_CODE = 2 * MOST_ONES;

        private static final int NOT_WORD = 0;
        private static final int OPEN = 1;
        private static final int FAIR = 2;
        private static final int AHEAD = 3;
        private static final int PRICE = 4;
        private static final int TAKES = 5;
        private static final int BOUGHT = 6;
        private static final int OR = 8;
        private static final int AND = 9;

        private final int[] code = new int[MOST_CODE];
        private final int[] stack = new int[MOST_CODE];
        private int length;
        private int ones;

        void clear() {
            length = 0;
            ones = 0;
        }

        void copyFrom(Sentence other) {
            copyRow(other.code, code);
            length = other.length;
            ones = other.ones;
        }

        boolean readFrom(Reader reader) {
            clear();
            return readCond(reader, 1) && (!reader.hasMore() || reader.refuse(NO_TOKEN));
        }

        private boolean readCond(Reader reader, int depth) {
            for (int all = 0; all <= MOST_ONES; all++) {
                if (!readOne(reader, depth)) {
                    return false;
                }
                for (int one = 0; one <= MOST_ONES && reader.wordOf("and") == 0; one++) {
                    reader.step();
                    if (!readOne(reader, depth)) {
                        return false;
                    }
                    emit(AND);
                }
                if (all > 0) {
                    emit(OR);
                }
                if (reader.wordOf("or") != 0) {
                    return true;
                }
                reader.step();
            }
            return reader.refuse(ONE_MORE);
        }

        private boolean readOne(Reader reader, int depth) {
            boolean bracket = reader.isAt('(');
            int word = reader.wordOf(WORDS);
            if (!bracket && word == NONE) {
                return reader.refuse(NO_TOKEN);
            }
            if (ones >= MOST_ONES || depth > MOST_WITHIN) {
                return reader.refuse(ONE_MORE);
            }
            ones++;
            reader.step();
            if (bracket) {
                return readCond(reader, depth + 1) && reader.takesSign(')');
            }
            if (word == NOT_WORD) {
                if (!readOne(reader, depth + 1)) {
                    return false;
                }
                emit(NOT_WORD);
                return true;
            }
            if (word >= PRICE) {
                return readComparison(reader, word);
            }
            emit(word);
            return true;
        }

        private boolean readComparison(Reader reader, int word) {
            int sign = signOf(reader);
            if (sign == NONE) {
                return reader.refuse(NO_TOKEN);
            }
            reader.step();
            if (!reader.seesNumber(0, 999)) {
                return false;
            }
            emit(word | sign << 4 | reader.number << 8);
            reader.step();
            return true;
        }

        /** -1, 0, 1 moved up by 1: how the size must compare with the NUMBER. */
        private static int signOf(Reader reader) {
            if (reader.isAt('<')) {
                return 0;
            }
            if (reader.isAt('=')) {
                return 1;
            }
            return reader.isAt('>') ? 2 : NONE;
        }

        private void emit(int step) {
            put(code, length, step);
            length = Math.min(length + 1, MOST_CODE);
        }

        /** The WINDOWS of which it may be said, as bits. */
        int windowsOf(Station station, Scene scene) {
            int all = (1 << station.windows) - 1;
            int top = 0;
            for (int k = 0; k < length; k++) {
                int step = entry(code, k);
                int what = step & 15;
                if (what == NOT_WORD) {
                    put(stack, top - 1, all & ~entry(stack, top - 1));
                } else if (what == OR) {
                    top--;
                    put(stack, top - 1, entry(stack, top - 1) | entry(stack, top));
                } else if (what == AND) {
                    top--;
                    put(stack, top - 1, entry(stack, top - 1) & entry(stack, top));
                } else {
                    put(stack, top, bitsOf(step, station, scene));
                    top++;
                }
            }
            return all & entry(stack, 0);
        }

        private static int bitsOf(int step, Station station, Scene scene) {
            int bits = 0;
            for (int w = 0; w < station.windows; w++) {
                if (holds(step, w, station, scene)) {
                    bits |= 1 << w;
                }
            }
            return bits;
        }

        private static boolean holds(int step, int w, Station station, Scene scene) {
            switch (step & 15) {
                case OPEN:
                    return scene.boughtBy(w) < station.oftenOf(w);
                case FAIR:
                    return station.isFair(w, station.again());
                case AHEAD:
                    return scene.where != NONE && w > scene.where;
                case PRICE:
                    return compares(step, station.priceOf(w));
                case TAKES:
                    return compares(step, station.takesOf(w));
                case BOUGHT:
                    return compares(step, scene.boughtBy(w));
                default:
                    return compares(step, w);
            }
        }

        private static boolean compares(int step, int size) {
            return Integer.compare(size, step >> 8) == (step >> 4 & 15) - 1;
        }
    }

    /** PLANS of the STATION, made when they are first asked for and kept until it changes. */
    private static final class Plans {
        private final Station station;
        private final int[] gains = new int[MOST_WINDOWS * MOST_SECONDS];
        /** What the rest of the way gains, by the SECOND and the fruits that he comes with. */
        private final int[] rests = new int[MOST_SECONDS * FRUIT_STEPS];
        private final int[] starts = new int[2 * MOST_WINDOWS * FRUIT_STEPS];
        /** How many sales are best, by the way, the WINDOW and the SECOND: two bits for each number of fruits. */
        private final long[] choices = new long[2 * MOST_WINDOWS * MOST_SECONDS];
        private final int[] upRows = new int[MOST_WINDOWS * MOST_WINDOWS];
        private final int[] downRows = new int[MOST_WINDOWS * MOST_WINDOWS];
        private final int[] saleWindows = new int[MOST_FRUITS];
        private final int[] saleSeconds = new int[MOST_FRUITS];
        private final int[] saleWays = new int[MOST_FRUITS];
        private final int[] soldGains = new int[MOST_OFTEN + 1];
        private final int[] onwardRests = new int[MOST_OFTEN + 1];
        private int sales;
        private int bestWindow;
        private int bestUp;
        /** How many fruits the WINDOWS in the rests can take at most: with more he gains the same. */
        private int useful;
        /** From this SECOND on nothing gains. */
        private int horizon;
        private boolean gainsKnown;
        private boolean startsKnown;
        private boolean bestKnown;

        Plans(Station station) {
            this.station = station;
        }

        void forget() {
            gainsKnown = false;
            startsKnown = false;
            bestKnown = false;
        }

        void prepareGains() {
            if (gainsKnown) {
                return;
            }
            gainsKnown = true;
            horizon = Math.min(station.longest(), MOST_SECONDS);
            for (int w = 0; w < station.windows; w++) {
                for (int t = 0; t < horizon; t++) {
                    put(gains, w * MOST_SECONDS + t, station.betterGain(w, t));
                }
            }
            Arrays.fill(upRows, NONE);
            Arrays.fill(downRows, NONE);
        }

        /** What he gains who begins with the WINDOW put ahead last. */
        private int gainInAll(int f) {
            return restFrom(0, f);
        }

        private void clearRests() {
            Arrays.fill(rests, 0);
            useful = 0;
        }

        /**
         * Puts a WINDOW ahead of the rests. Walking takes a SECOND at least, so a rest is used
         * only for SECONDS ahead of it: going up in t none is overwritten too early.
         */
        private void putAhead(int w, int mostFruits, int up, boolean keeps) {
            int often = station.oftenOf(w);
            int takes = station.takesOf(w);
            int walking = station.walking();
            int reach = Math.min(mostFruits, useful + often);
            for (int t = 0; t < horizon; t++) {
                weighSales(w, t, often, takes, walking);
                long chosen = 0;
                for (int f = 0; f <= reach; f++) {
                    int most = NONE;
                    int found = 0;
                    for (int many = 0; many <= often && many <= f; many++) {
                        int all = entry(soldGains, many) + restFrom(entry(onwardRests, many), f - many);
                        // only more is better: of like ways the fewest sales stay
                        if (all > most) {
                            most = all;
                            found = many;
                        }
                    }
                    put(rests, t * FRUIT_STEPS + f, most);
                    chosen |= (long) found << 2 * f;
                }
                keepChoice(choiceIndex(up, w, t), chosen, keeps);
            }
            useful = reach;
        }

        /** What 0 to OFTEN sales from a SECOND on gain, and where the rests behind them begin. */
        private void weighSales(int w, int t, int often, int takes, int walking) {
            int sold = 0;
            int second = t;
            for (int many = 0; many <= often; many++) {
                int onward = second + walking;
                put(soldGains, many, sold);
                put(onwardRests, many, onward < horizon ? onward * FRUIT_STEPS : NONE);
                sold += second < horizon ? entry(gains, w * MOST_SECONDS + second) : 0;
                second += takes;
            }
        }

        private int restFrom(int index, int f) {
            return index == NONE ? 0 : entry(rests, index + Math.min(f, useful));
        }

        private void keepChoice(int k, long chosen, boolean keeps) {
            if (keeps && k >= 0 && k < choices.length) {
                choices[k] = chosen;
            }
        }

        private static int choiceIndex(int up, int w, int t) {
            return (up * MOST_WINDOWS + w) * MOST_SECONDS + t;
        }

        private static int startIndex(int up, int w, int f) {
            return (up * MOST_WINDOWS + w) * FRUIT_STEPS + f;
        }

        private void prepareStarts() {
            if (startsKnown) {
                return;
            }
            startsKnown = true;
            prepareGains();
            for (int up = 0; up <= 1; up++) {
                clearRests();
                for (int k = 0; k < station.windows; k++) {
                    int w = up == 1 ? station.windows - 1 - k : k;
                    putAhead(w, MOST_FRUITS, up, true);
                    for (int f = 0; f <= MOST_FRUITS; f++) {
                        put(starts, startIndex(up, w, f), gainInAll(f));
                    }
                }
            }
        }

        int startGain(int up, int w, int f) {
            prepareStarts();
            return entry(starts, startIndex(up, w, f));
        }

        void prepareBest() {
            if (bestKnown) {
                return;
            }
            prepareStarts();
            bestKnown = true;
            bestWindow = 0;
            bestUp = 1;
            int most = NONE;
            for (int w = 0; w < station.windows; w++) {
                for (int up = 1; up >= 0; up--) {
                    int all = entry(starts, startIndex(up, w, station.basket()));
                    if (all > most) {
                        most = all;
                        bestWindow = w;
                        bestUp = up;
                    }
                }
            }
            traceBest();
        }

        private void traceBest() {
            sales = 0;
            int along = bestUp == 1 ? station.windows - bestWindow : bestWindow + 1;
            int step = bestUp == 1 ? 1 : -1;
            int wanted = 0;
            for (int k = 0; k < along; k++) {
                wanted += station.oftenOf(bestWindow + k * step);
            }
            int t = 0;
            int f = station.basket();
            for (int k = 0; k < along; k++) {
                int w = bestWindow + k * step;
                int many = chosenSales(w, t, Math.min(f, wanted));
                for (int sold = 0; sold < many; sold++) {
                    noteSale(w, t);
                    t += station.takesOf(w);
                }
                f -= many;
                wanted -= station.oftenOf(w);
                t += station.walking();
            }
        }

        private int chosenSales(int w, int t, int f) {
            int k = choiceIndex(bestUp, w, t);
            if (t >= horizon || f < 0 || k < 0 || k >= choices.length) {
                return 0;
            }
            return (int) (choices[k] >>> 2 * f & 3);
        }

        private void noteSale(int w, int t) {
            put(saleWindows, sales, w);
            put(saleSeconds, sales, t);
            put(saleWays, sales, station.betterWay(w, t));
            sales = Math.min(sales + 1, MOST_FRUITS);
        }

        int saleWindow(int k) {
            return entry(saleWindows, k);
        }

        int saleSecond(int k) {
            return entry(saleSeconds, k);
        }

        int saleWay(int k) {
            return entry(saleWays, k);
        }

        int saleEnd(int k) {
            return saleSecond(k) + station.takesOf(saleWindow(k));
        }

        int lastEnd() {
            return sales > 0 ? saleEnd(sales - 1) : 0;
        }

        /** Pence of the sales of the BEST PLAN that end at a SECOND at the latest. */
        int penceUntil(int last) {
            int pence = 0;
            for (int k = 0; k < sales; k++) {
                if (saleEnd(k) <= last) {
                    pence += station.priceOf(saleWindow(k));
                }
            }
            return pence;
        }

        /** GAIN of one who has the WINDOWS from the first to the last for himself, behind prepareGains(). */
        int rowGain(int first, int last) {
            if (!station.has(first) || !station.has(last) || first > last) {
                return 0;
            }
            int index = first * MOST_WINDOWS + last;
            if (entry(upRows, index) == NONE) {
                measureUp(first, last);
            }
            if (entry(downRows, index) == NONE) {
                measureDown(first, last);
            }
            return Math.max(entry(upRows, index), entry(downRows, index));
        }

        private void measureUp(int first, int last) {
            clearRests();
            for (int w = last; w >= first; w--) {
                putAhead(w, station.basket(), 1, false);
                put(upRows, w * MOST_WINDOWS + last, gainInAll(station.basket()));
            }
        }

        private void measureDown(int first, int last) {
            clearRests();
            for (int w = first; w <= last; w++) {
                putAhead(w, station.basket(), 0, false);
                put(downRows, first * MOST_WINDOWS + w, gainInAll(station.basket()));
            }
        }

        /** GAIN of the k-th of n SELLERS. */
        int sellerGain(int n, int k) {
            if (n <= 0) {
                return 0;
            }
            int length = station.windows / n;
            int longer = station.windows % n;
            int first = k * length + Math.min(k, longer);
            int last = first + length - (k < longer ? 0 : 1);
            return rowGain(first, last);
        }

        boolean allEarn(int n) {
            for (int k = 0; k < n; k++) {
                if (sellerGain(n, k) < station.cost() * station.unit()) {
                    return false;
                }
            }
            return true;
        }
    }

    /** TRAINS DRAWN by a seed. */
    private static final class Days {
        private int seed;
        private int total;
        private int most;

        void live(int n, int firstSeed, Station station, Plans plans) {
            seed = firstSeed;
            total = 0;
            most = 0;
            for (int k = 0; k < n; k++) {
                int stays = station.secondsAtDraw(draw(station.weightFrom(0)));
                int pence = 0;
                for (int sold = 0; sold < plans.sales; sold++) {
                    if (plans.saleSecond(sold) < stays && isPaid(sold, stays, station, plans)) {
                        pence += station.priceOf(plans.saleWindow(sold));
                    }
                }
                total += pence;
                most = Math.max(most, pence);
            }
        }

        private boolean isPaid(int sold, int stays, Station station, Plans plans) {
            if (plans.saleWay(sold) == COIN) {
                return draw(TWELVE) >= station.shy();
            }
            return plans.saleEnd(sold) <= stays || draw(TWELVE) < station.honest();
        }

        private int draw(int n) {
            seed = nextSeed(seed);
            return drawOf(seed, n);
        }
    }

    /** One of the two of a RACE. */
    private static final class Racer {
        private int where;
        private int step;
        private int second;
        private int fruits;
        private int pence;
        private int visited;

        void prepare(int w, int itsStep, Station station) {
            where = w;
            step = itsStep;
            second = 0;
            fruits = station.basket();
            pence = 0;
            visited = 0;
        }

        /** Whether he comes to his next WINDOW ahead of the other to his, or with him. */
        boolean isAhead(Racer other, Station station) {
            return station.has(where) && (!station.has(other.where) || second <= other.second);
        }

        void visit(Racer other, int last, Station station) {
            if ((other.visited >> where & 1) == 0) {
                int many = Math.min(fruits, station.oftenOf(where));
                for (int k = 0; k < many; k++) {
                    second += station.takesOf(where);
                    if (second <= last) {
                        pence += station.priceOf(where);
                    }
                }
                fruits -= many;
            }
            visited |= 1 << where;
            where += step;
            second += station.walking();
        }
    }

    /** The LINES of a LOG, and how the latest one was judged. */
    private static final class Log {
        private static final String WORDS = "train at fruit coin up down waits";
        private static final int MOST_LINES = 40;
        private static final int TRAIN = 0;
        private static final int AT = 1;
        private static final int FRUIT_FIRST = 2;
        private static final int COIN_FIRST = 3;
        private static final int UP = 4;
        private static final int DOWN = 5;
        private static final int WAITS = 6;

        private final int[] acts = new int[MOST_LINES];
        private final int[] numbers = new int[MOST_LINES];
        private int lines;
        private boolean judged;
        private int why;
        private int done;
        private int pence;
        private int fruits;

        boolean readFrom(Reader reader) {
            lines = 0;
            for (int line = 0; line <= MOST_LINES && reader.hasMore(); line++) {
                if (!readLine(reader) || !reader.takesSign(';')) {
                    return false;
                }
                lines++;
            }
            return true;
        }

        private boolean readLine(Reader reader) {
            int word = reader.wordOf(WORDS);
            if (word == NONE) {
                return reader.refuse(NO_TOKEN);
            }
            if (lines >= MOST_LINES) {
                return reader.refuse(ONE_MORE);
            }
            put(acts, lines, word);
            put(numbers, lines, 0);
            reader.step();
            switch (word) {
                case TRAIN:
                    return readNumber(reader, 0, MOST_SECONDS);
                case AT:
                    return readNumber(reader, 0, 9);
                case WAITS:
                    return readNumber(reader, 1, MOST_SECONDS);
                default:
                    return true;
            }
        }

        private boolean readNumber(Reader reader, int least, int greatest) {
            if (!reader.seesNumber(least, greatest)) {
                return false;
            }
            put(numbers, lines, reader.number);
            reader.step();
            return true;
        }

        /** Lives the LINES in a scene as far as they are not WRONG. */
        void judge(Scene scene, Station station) {
            int penceAhead = scene.pence;
            judged = true;
            why = 0;
            done = 0;
            for (int line = 0; line < lines && why == 0; line++) {
                why = whyNot(entry(acts, line), entry(numbers, line), scene, station);
                if (why == 0) {
                    done++;
                }
            }
            pence = scene.pence - penceAhead;
            fruits = scene.fruits;
        }

        private static int whyNot(int act, int number, Scene scene, Station station) {
            switch (act) {
                case TRAIN:
                    return scene.comes(number, number, station);
                case AT:
                    return station.has(number) ? above(10, scene.startsAt(number)) : 19;
                case FRUIT_FIRST:
                    return above(20, scene.sells(FRUIT, station));
                case COIN_FIRST:
                    return above(20, scene.sells(COIN, station));
                case UP:
                    return above(30, scene.walks(1, station));
                case DOWN:
                    return above(30, scene.walks(0, station));
                default:
                    return above(40, scene.rests(number));
            }
        }

        private static int above(int tens, int reason) {
            return reason == 0 ? 0 : tens + reason;
        }
    }

    /** STATION, scene and SENTENCE as they were once. */
    private static final class Image {
        private final Station place = new Station();
        private final Scene scene = new Scene();
        private final Sentence saying = new Sentence();
        private boolean holds;

        void keep(Station itsPlace, Scene itsScene, Sentence itsSaying) {
            place.copyFrom(itsPlace);
            scene.copyFrom(itsScene);
            saying.copyFrom(itsSaying);
            holds = true;
        }
    }
}
