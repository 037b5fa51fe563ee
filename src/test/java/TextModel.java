import java.util.ArrayList;
import java.util.List;

/** The document's texts in their plainest form: all TOKENS first, then LINES or ONES over the list of them. */
final class TextModel {
    /** A TOKEN: where it begins and its letters; null for what is none, "" for the end. */
    private static final class Token {
        final int place;
        final String text;

        Token(int place, String text) {
            this.place = place;
            this.text = text;
        }

        boolean isNumber() {
            return text != null && text.matches("[0-9]{1,3}");
        }

        boolean is(String... words) {
            for (String word : words) {
                if (word.equals(text)) {
                    return true;
                }
            }
            return false;
        }
    }

    /** The first FAULT, as it is thrown. */
    private static final class Fault extends RuntimeException {
        private static final long serialVersionUID = 1L;
        final int place;
        final int kind;

        Fault(Token token, int kind) {
            this.place = token.place;
            this.kind = kind;
        }
    }

    /** One of a SENTENCE: asked of a WINDOW by its numbers. */
    interface One {
        boolean holds(int[] numbers);
    }

    /** What a WINDOW is for a SENTENCE: places in the row of its numbers. */
    static final List<String> ASKED = List.of("open", "fair", "ahead", "price", "takes", "bought", "number");

    int place = -1;
    int kind;
    int many;
    One saying;
    /** What a STATION told: PRICE TAKES OFTEN WORTH of WINDOWS, SECONDS WEIGHT of 'stands', the eight others. */
    final List<int[]> windows = new ArrayList<>();
    final List<int[]> stands = new ArrayList<>();
    final int[] settings = {1, 12, 6, 6, 0, 6, 3, 1};
    /** What a LOG told: which act, its NUMBER. */
    final List<int[]> acts = new ArrayList<>();
    private final List<Token> tokens = new ArrayList<>();
    private int at;

    private TextModel(String text, int most) {
        int k = 0;
        while (true) {
            while (k < text.length() && (text.charAt(k) == 32 || text.charAt(k) == 10)) {
                k++;
            }
            if (k >= most && text.length() > most) {
                tokens.add(new Token(most, null));
                return;
            }
            if (k == text.length()) {
                tokens.add(new Token(k, ""));
                return;
            }
            int end = k;
            while (end < text.length() && String.valueOf(text.charAt(end)).matches("[a-z0-9]")) {
                end++;
            }
            end = Math.max(end, k + 1);
            String run = text.substring(k, end);
            tokens.add(new Token(k, run.matches("[a-z]{1,7}|[0-9]{1,3}|[;<=>()]") ? run : null));
            k = end;
        }
    }

    private Token token() {
        return tokens.get(at);
    }

    private boolean ends() {
        return token().is("");
    }

    private void needs(boolean told, int fault) {
        if (!told) {
            throw new Fault(token(), fault);
        }
    }

    private int number(int least, int most) {
        needs(token().isNumber(), 1);
        int number = Integer.parseInt(token().text);
        needs(number >= least && number <= most, 2);
        at++;
        return number;
    }

    private void sign(String sign) {
        needs(token().is(sign), 1);
        at++;
    }

    private void reads(Runnable text) {
        try {
            text.run();
        } catch (Fault fault) {
            place = fault.place;
            kind = fault.kind;
        }
    }

    static TextModel station(String text) {
        TextModel m = new TextModel(text, 900);
        m.reads(m::readStation);
        return m;
    }

    private void readStation() {
        List<String> words = List.of("walk", "basket", "honest", "shy", "whistle", "again", "runner", "cost");
        int[] most = {5, 24, 12, 12, 30, 11, 12, 99};
        List<String> told = new ArrayList<>();
        List<Integer> seconds = new ArrayList<>();
        for (; !ends(); many++) {
            Token word = token();
            if (word.is("window")) {
                needs(windows.size() < 10, 4);
                at++;
                windows.add(new int[] {number(1, 99), number(1, 9), number(0, 3), number(0, 99)});
            } else if (word.is("stands")) {
                needs(seconds.size() < 6, 4);
                at++;
                int second = number(1, 60);
                at--;
                needs(!seconds.contains(second), 3);
                seconds.add(second);
                at++;
                stands.add(new int[] {second, number(1, 9)});
            } else {
                int k = words.indexOf(String.valueOf(word.text));
                needs(k >= 0, 1);
                needs(!told.contains(word.text), 3);
                told.add(word.text);
                at++;
                settings[k] = number(k == 0 ? 1 : 0, most[k]);
            }
            sign(";");
        }
    }

    static TextModel log(String text) {
        TextModel m = new TextModel(text, 400);
        m.reads(m::readLog);
        return m;
    }

    private void readLog() {
        List<String> words = List.of("train", "at", "fruit", "coin", "up", "down", "waits");
        for (; !ends(); many++) {
            Token word = token();
            int act = words.indexOf(String.valueOf(word.text));
            needs(act >= 0, 1);
            needs(many < 40, 4);
            at++;
            boolean numbered = word.is("train", "at", "waits");
            acts.add(new int[] {act, numbered ? number(word.is("waits") ? 1 : 0, word.is("at") ? 9 : 60) : 0});
            sign(";");
        }
    }

    static TextModel sentence(String text) {
        TextModel m = new TextModel(text, 200);
        m.reads(() -> {
            m.saying = m.cond(1);
            m.needs(m.ends(), 1);
        });
        return m;
    }

    private One cond(int depth) {
        One left = all(depth);
        if (!token().is("or")) {
            return left;
        }
        at++;
        One right = cond(depth);
        return row -> left.holds(row) || right.holds(row);
    }

    private One all(int depth) {
        One left = one(depth);
        if (!token().is("and")) {
            return left;
        }
        at++;
        One right = all(depth);
        return row -> left.holds(row) && right.holds(row);
    }

    private One one(int depth) {
        Token word = token();
        int asked = ASKED.indexOf(String.valueOf(word.text));
        needs(asked >= 0 || word.is("not", "("), 1);
        needs(many < 20 && depth <= 8, 4);
        many++;
        at++;
        if (word.is("not")) {
            One inner = one(depth + 1);
            return row -> !inner.holds(row);
        }
        if (word.is("(")) {
            One inner = cond(depth + 1);
            sign(")");
            return inner;
        }
        if (asked < 3) {
            return row -> row[asked] == 1;
        }
        String sign = String.valueOf(token().text);
        needs(token().is("<", "=", ">"), 1);
        at++;
        int number = number(0, 999);
        return row -> sign.equals("<") ? row[asked] < number : sign.equals("=") ? row[asked] == number : row[asked] > number;
    }
}
