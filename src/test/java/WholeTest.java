import java.lang.reflect.InvocationTargetException;
import java.lang.reflect.Method;
import java.nio.charset.StandardCharsets;
import java.util.ArrayList;
import java.util.Arrays;
import java.util.List;
import java.util.Map;
import java.util.NoSuchElementException;
import java.util.Random;
import java.util.TreeMap;

/** All promises at once: random runs of 512 calls of the whole face, each answer against the plain Whole. */
public final class WholeTest {
    private static final int CALLS = 512;
    private static final String[] ACTS = {"train 9;", "train 30;", "train 0;", "at 0;", "at 1;", "at 2;", "at 9;",
        "fruit;", "fruit;", "coin;", "coin;", "up;", "up;", "down;", "waits 1;", "waits 7;"};
    private static final String[] SENTENCES = {"open", "not open", "fair or ahead", "ahead and open",
        "not (price > 40 and takes < 5)", "bought = 1 or bought > 1", "number = 0 or number > 2", "not not fair",
        "(ahead)", "price = 5 and not (number < 1 or not open)", "bought < 1"};
    private static final int[] ODD = {Integer.MIN_VALUE, -2, -1, 0, 1, 2, 10, 11, 24, 25, 60, 61, 999, 1000,
        Integer.MAX_VALUE};
    /** Of each argument how many numbers are such, from 0 on. */
    private static final Map<String, String> SUCH = Map.ofEntries(
        Map.entry("window", "3 6"), Map.entry("stand", "6 2"), Map.entry("now", "11"), Map.entry("latest", ""),
        Map.entry("heard", ""), Map.entry("yet", "40 2"), Map.entry("gain", "3 2 40 2"), Map.entry("better", "3 40"),
        Map.entry("trust", "3"), Map.entry("plan", "3 2 12 2"), Map.entry("best", "5"), Map.entry("sale", "4 3"),
        Map.entry("sellers", ""), Map.entry("earns", "4 3 2"), Map.entry("curve", "4 2"), Map.entry("share", "3 3"),
        Map.entry("race", "3 3 61 2"), Map.entry("border", ""), Map.entry("change", "3 500"),
        Map.entry("weekly", "3"), Map.entry("needs", "3"), Map.entry("meant", "3 40 2"), Map.entry("idle", ""),
        Map.entry("drawn", "61 1000"), Map.entry("luckiest", "61 1000"), Map.entry("logged", "4"),
        Map.entry("said", "3"), Map.entry("count", "12"), Map.entry("fault", ""), Map.entry("stood", ""),
        Map.entry("train", "61 1000"), Map.entry("begin", "4"), Map.entry("sell", "2"), Map.entry("walk", "2"),
        Map.entry("waits", "61"), Map.entry("end", "940"), Map.entry("feed", "9 9 9 9 9"), Map.entry("log", "3"),
        Map.entry("image", "3"), Map.entry("restore", "3"));
    private static final TreeMap<String, Method> FACE = new TreeMap<>();

    private final Random random;
    private final WindowSale x = new WindowSale();
    private final Whole due = new Whole();
    private final List<String> lately = new ArrayList<>();
    private int calls;

    private WholeTest(int run) {
        random = new Random(run);
    }

    public static void main(String[] args) {
        for (Method method : WindowSale.class.getDeclaredMethods()) {
            if (java.lang.reflect.Modifier.isPublic(method.getModifiers())) {
                FACE.put(method.getName(), method);
            }
        }
        for (int run = 0; run < 400; run++) {
            new WholeTest(run).runs();
        }
        Due.close("WholeTest");
    }

    private void runs() {
        List<String> names = new ArrayList<>(FACE.keySet());
        text("station", Model.random(random, 4).text());
        while (calls < CALLS) {
            int pick = random.nextInt(200);
            if (pick < 2) {
                text("station", stationText());
            } else if (pick < 8) {
                text("log", logText());
            } else if (pick < 12) {
                text("sentence", spoiled(SENTENCES[random.nextInt(SENTENCES.length)]));
            } else if (pick < 15) {
                text("stood", pence());
            } else if (pick < 100) {
                acts();
            } else {
                any(names.get(random.nextInt(names.size())));
            }
        }
    }

    private void asks(String name, int... arguments) {
        if (calls >= CALLS) {
            return;
        }
        calls++;
        String call = name + Arrays.toString(arguments);
        lately.add(call);
        Due.is("call " + calls + " " + call + " behind " + lately, answerOf(name, arguments), due.answer(name, arguments));
        if (lately.size() > 12) {
            lately.remove(0);
        }
    }

    private long answerOf(String name, int[] arguments) {
        Object[] boxed = Arrays.stream(arguments).boxed().toArray();
        try {
            Object answer = FACE.get(name).invoke(x, boxed);
            return answer instanceof Boolean ? (Boolean) answer ? 1 : 0 : (Integer) answer;
        } catch (InvocationTargetException e) {
            boolean told = e.getCause() instanceof NoSuchElementException;
            Due.is(name + " threw " + e.getCause(), told, true);
            return Due.THROWS;
        } catch (IllegalAccessException e) {
            throw new IllegalStateException(name + " can't be called", e);
        }
    }

    // ---- texts

    private String stationText() {
        int pick = random.nextInt(8);
        if (pick == 0) {
            return random.nextBoolean() ? "" : "stands 5 1;";
        }
        return spoiled(Model.random(random, pick == 1 ? 5 : 4).text());
    }

    private String logText() {
        StringBuilder text = new StringBuilder();
        if (random.nextInt(3) == 0) {
            text.append("train ").append(random.nextInt(61)).append(";at ").append(random.nextInt(3)).append(';');
        }
        for (int k = random.nextInt(random.nextInt(10) == 0 ? 50 : 7); k > 0; k--) {
            text.append(ACTS[random.nextInt(ACTS.length)]);
        }
        return spoiled(text.toString());
    }

    private String pence() {
        int sum = random.nextBoolean() ? Math.max(0, x.best(3)) : random.nextInt(300);
        calls++;
        due.answer("best", new int[] {3});
        String text = "" + (char) (sum >> 8) + (char) (sum & 255);
        return random.nextInt(8) == 0 ? text.substring(1) : text;
    }

    private String spoiled(String text) {
        if (random.nextInt(5) > 0 || text.isEmpty()) {
            return text;
        }
        int from = random.nextInt(text.length());
        String put = new String[] {"", ";", "1", " ", "x", "train 9;", "("}[random.nextInt(7)];
        return text.substring(0, from) + put + text.substring(from + random.nextInt(2));
    }

    private void text(String call, String text) {
        // now and then what is on the tape stays ahead of the text
        if (random.nextInt(12) > 0) {
            asks("end", 0);
        }
        byte[] bytes = text.getBytes(StandardCharsets.ISO_8859_1);
        int length = x.count(11) + bytes.length;
        calls++;
        for (int from = 0; from < bytes.length; from += 20) {
            int[] numbers = new int[5];
            for (int k = 0; k < 20; k++) {
                numbers[k / 4] = numbers[k / 4] << 8 | (from + k < bytes.length ? bytes[from + k] & 255 : 0);
            }
            asks("feed", numbers);
        }
        asks("end", length);
        if (call.equals("log")) {
            asks("log", random.nextInt(10) == 0 ? 2 : random.nextInt(2));
        } else {
            asks(call);
        }
        asks("fault");
        asks("count", 11);
    }

    // ---- other calls

    private void acts() {
        switch (random.nextInt(14)) {
            case 0:
                asks("train", 5 + random.nextInt(56), random.nextInt());
                asks("begin", random.nextInt(3));
                break;
            case 1:
                asks("begin", random.nextInt(3));
                break;
            case 2:
            case 3:
            case 4:
                asks("walk", random.nextInt(2));
                break;
            case 5:
                asks("waits", 1 + random.nextInt(5));
                break;
            case 6:
                asks("undo");
                break;
            case 7:
                asks("now", random.nextInt(11));
                asks("latest");
                break;
            case 8:
                imaged();
                break;
            default:
                asks("sell", random.nextInt(2));
                asks("now", random.nextInt(11));
                break;
        }
    }

    private void imaged() {
        if (random.nextInt(3) == 0) {
            asks(random.nextBoolean() ? "image" : "restore", random.nextInt(2));
        }
    }

    private void any(String name) {
        String such = SUCH.get(name);
        // station() and sentence() have their turns with a text, and these change much
        if (such == null || name.equals("restore") && random.nextInt(4) > 0) {
            return;
        }
        int[] arguments = new int[FACE.get(name).getParameterCount()];
        for (int k = 0; k < arguments.length; k++) {
            int many = Integer.parseInt(such.split(" ")[k]);
            boolean odd = random.nextInt(12) == 0;
            arguments[k] = odd ? ODD[random.nextInt(ODD.length)] : random.nextInt(many);
        }
        asks(name, arguments);
    }
}
