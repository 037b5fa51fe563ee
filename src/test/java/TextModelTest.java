import java.util.Random;

/** Promises 4, 5, 38, 40 and 41: random texts, right and nearly right, against the plain TextModel. */
public final class TextModelTest {
    private static final String[] LINES = {"window 1 1 1 1;", "window 99 9 3 99;", "window 12 3 0 0;", "stands 5 1;",
        "stands 60 9;", "stands 7 2;", "stands 1 1;", "walk 5;", "basket 24;", "honest 12;", "shy 0;", "whistle 30;",
        "again 11;", "runner 12;", "cost 99;", "window 1 1 1 1;", "window 2 2 2 2;", "stands 33 3;"};
    private static final String[] ACTS = {"train 5;", "train 0;", "train 60;", "at 0;", "at 9;", "fruit;", "coin;",
        "up;", "down;", "waits 1;", "waits 60;"};
    private static final String[] PIECES = {"window", "stands", "walk", "basket", "cost", "shy", "train", "at", "up",
        "waits", "not", "and", "or", "open", "price", "0", "1", "9", "10", "61", "99", "100", "0001", ";", "(", ")",
        "<", "=", ">", ".", "a1", "windows", "whistles", "\t", "\n", " ", "  ", "z", "{", "" + (char) 200};

    public static void main(String[] args) {
        for (int run = 0; run < 6000; run++) {
            Random random = new Random(run);
            stations(random);
            logs(random);
            sentences(random);
        }
        Due.close("TextModelTest");
    }

    private static String blanks(Random random) {
        int pick = random.nextInt(6);
        return pick == 0 ? "" : pick == 1 ? "\n" : pick == 2 ? "  " : " ";
    }

    /** A LINE with another NUMBER now and then, as told or not. */
    private static String otherNumbers(Random random, String line) {
        StringBuilder told = new StringBuilder();
        for (String word : line.substring(0, line.length() - 1).split(" ")) {
            boolean number = word.matches("[0-9]+") && random.nextInt(12) == 0;
            told.append(told.length() > 0 ? " " : "").append(number ? String.valueOf(random.nextInt(110)) : word);
        }
        return told.append(blanks(random)).append(';').toString();
    }

    /** Spoils a text a little: something put in, cut out or put in another's place; sometimes it stays. */
    private static String spoiled(Random random, String text, int most) {
        String told = text;
        for (int k = random.nextInt(3); k > 0; k--) {
            int from = random.nextInt(told.length() + 1);
            int to = Math.min(told.length(), from + random.nextInt(4));
            String put = random.nextInt(3) == 0 ? "" : PIECES[random.nextInt(PIECES.length)];
            told = told.substring(0, from) + put + told.substring(to);
        }
        if (random.nextInt(5) == 0) {
            int room = most + random.nextInt(12) - 6 - told.length();
            int from = random.nextInt(3) == 0 ? random.nextInt(told.length() + 1) : random.nextBoolean() ? 0 : told.length();
            told = told.substring(0, from) + " ".repeat(Math.max(0, room)) + told.substring(from);
        }
        return told.length() > 940 ? told.substring(0, 940) : told;
    }

    private static void isRead(String call, WindowSale x, int answer, TextModel due, int first) {
        Due.is(call, answer, due.place >= 0 ? first - due.place : answer < 0 ? Integer.MAX_VALUE : answer);
        Due.is("fault of " + call, x.fault(), due.kind);
    }

    private static void stations(Random random) {
        StringBuilder text = new StringBuilder();
        // WINDOWS alone may come often enough to be too many
        int sorts = random.nextInt(4) == 0 ? 3 : LINES.length;
        int second = random.nextInt(50);
        for (int k = random.nextInt(random.nextInt(4) == 0 ? 30 : 9); k > 0; k--) {
            boolean other = sorts == 3 && random.nextInt(3) == 0;
            second++;
            String line = other ? "stands " + second + " 1;" : LINES[random.nextInt(sorts)];
            text.append(otherNumbers(random, line)).append(blanks(random));
        }
        String told = spoiled(random, text.toString(), 900);
        WindowSale x = new WindowSale();
        TextModel due = TextModel.station(told);
        int answer = Due.station(x, told);
        isRead("station '" + told + "'", x, answer, due, -1);
        if (due.place < 0) {
            Due.is("LINES of '" + told + "'", answer, due.many);
        }
    }

    private static void logs(Random random) {
        StringBuilder text = new StringBuilder();
        for (int k = random.nextInt(random.nextInt(4) == 0 ? 45 : 9); k > 0; k--) {
            text.append(otherNumbers(random, ACTS[random.nextInt(ACTS.length)])).append(blanks(random));
        }
        String told = spoiled(random, text.toString(), 400);
        WindowSale x = Due.at("window 1 1 1 1;");
        TextModel due = TextModel.log(told);
        int answer = Due.log(x, told, 0);
        Due.is("log '" + told + "'", due.place >= 0 ? answer : Math.max(answer, -1), due.place >= 0 ? -2 - due.place : answer);
        Due.is("fault of log '" + told + "'", x.fault(), due.kind);
        if (answer == -1) {
            Due.is("LINES of log '" + told + "'", x.logged(1), due.many);
        }
    }

    private static void one(Random random, StringBuilder text, int depth) {
        int pick = random.nextInt(depth > 9 ? 7 : 11);
        if (pick < 3) {
            text.append(TextModel.ASKED.get(pick));
        } else if (pick < 7) {
            text.append(TextModel.ASKED.get(pick)).append(blanks(random)).append("<=>".charAt(random.nextInt(3)))
                .append(blanks(random)).append(random.nextInt(pick == 3 ? 20 : 5));
        } else if (pick < 9) {
            text.append("not ");
            one(random, text, depth + 1);
        } else {
            text.append('(').append(blanks(random));
            cond(random, text, depth + 1);
            text.append(')');
        }
    }

    private static void cond(Random random, StringBuilder text, int depth) {
        one(random, text, depth);
        for (int k = random.nextInt(depth == 0 ? 5 : 3); k > 0; k--) {
            text.append(random.nextBoolean() ? " or " : " and ");
            one(random, text, depth);
        }
    }

    private static void sentences(Random random) {
        WindowSale x = Due.at("window 10 2 2 20;window 6 3 1 6;window 18 4 1 40;window 6 1 0 99;window 3 1 3 5;stands 60 1;");
        x.train(60, 1);
        if (random.nextInt(4) > 0) {
            x.begin(random.nextInt(5));
            for (int k = random.nextInt(6); k > 0; k--) {
                x.sell(0);
                x.walk(random.nextInt(2));
            }
        }
        StringBuilder text = new StringBuilder();
        cond(random, text, random.nextInt(8) == 0 ? -5 : 0);
        String told = spoiled(random, text.toString(), 200);
        TextModel due = TextModel.sentence(told);
        int answer = Due.sentence(x, told);
        isRead("sentence '" + told + "'", x, answer, due, -1);
        if (due.place >= 0) {
            Due.is("no SENTENCE", x.said(-1), -1);
            return;
        }
        Due.is("ONES of '" + told + "'", answer, due.many);
        int seen = 0;
        for (int w = 0; w < 5; w++) {
            int bought = x.window(w, 4);
            int[] numbers = {bought < x.window(w, 2) ? 1 : 0, x.weekly(w), x.now(2) >= 0 && w > x.now(2) ? 1 : 0,
                x.window(w, 0), x.window(w, 1), bought, w};
            if (due.saying.holds(numbers)) {
                Due.is("said(" + seen + ") of '" + told + "'", x.said(seen), w);
                seen++;
            }
        }
        Due.is("said(NONE) of '" + told + "'", x.said(-1), seen);
    }
}
