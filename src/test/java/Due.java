import java.lang.reflect.InvocationTargetException;
import java.lang.reflect.Method;
import java.nio.charset.StandardCharsets;
import java.util.Arrays;
import java.util.Comparator;
import java.util.NoSuchElementException;

/** What all tests share: answers compared with those that are due, and texts put on the tape. */
final class Due {
    /** What a call answers that throws NoSuchElementException, for comparing. */
    static final long THROWS = Long.MIN_VALUE;

    private static int wrong = 0;
    private static int asked = 0;
    private static String part = "";

    private Due() {
    }

    interface Call {
        int answer();
    }

    static void is(String call, long got, long want) {
        asked++;
        if (got != want) {
            wrong++;
            if (wrong <= 40) {
                System.out.println(part + call + " answered " + told(got) + ", due is " + told(want));
            }
        }
    }

    static void is(String call, boolean got, boolean want) {
        is(call, got ? 1 : 0, want ? 1 : 0);
    }

    static void is(String call, Call got, long want) {
        is(call, answerOf(got), want);
    }

    static void throwing(String call, Call got) {
        is(call, answerOf(got), THROWS);
    }

    /** A fraction, asked for by both numbers. */
    static void fraction(String call, Call above, Call below, long a, long b) {
        is(call + " above", above, a);
        is(call + " below", below, b);
    }

    static long answerOf(Call call) {
        try {
            return call.answer();
        } catch (NoSuchElementException e) {
            return THROWS;
        }
    }

    private static String told(long answer) {
        return answer == THROWS ? "throws" : Long.toString(answer);
    }

    static void tape(WindowSale x, byte[] bytes) {
        int length = x.count(11);
        int[] numbers = new int[5];
        for (int from = 0; from < bytes.length; from += 20) {
            for (int k = 0; k < 5; k++) {
                numbers[k] = 0;
                for (int b = 0; b < 4; b++) {
                    int at = from + 4 * k + b;
                    numbers[k] = numbers[k] << 8 | (at < bytes.length ? bytes[at] & 255 : 0);
                }
            }
            x.feed(numbers[0], numbers[1], numbers[2], numbers[3], numbers[4]);
        }
        if (!x.end(length + bytes.length)) {
            throw new IllegalStateException("the tape is too long for this test");
        }
    }

    static void tape(WindowSale x, String text) {
        tape(x, text.getBytes(StandardCharsets.ISO_8859_1));
    }

    static int station(WindowSale x, String text) {
        tape(x, text);
        return x.station();
    }

    static int log(WindowSale x, String text, int lives) {
        tape(x, text);
        return x.log(lives);
    }

    static int sentence(WindowSale x, String text) {
        tape(x, text);
        return x.sentence();
    }

    static int stood(WindowSale x, int pence) {
        tape(x, new byte[] {(byte) (pence >> 8), (byte) pence});
        return x.stood();
    }

    static WindowSale at(String text) {
        WindowSale x = new WindowSale();
        if (station(x, text) < 0) {
            throw new IllegalStateException("a FAULT in this test's STATION: " + text);
        }
        return x;
    }

    /** A seed whose first draws of n are these, by the document's own rule. */
    static int seedOf(int n, int... draws) {
        for (int seed = 0; seed < 50_000_000; seed++) {
            int x = seed;
            boolean same = true;
            for (int k = 0; k < draws.length && same; k++) {
                x = x * 1103515245 + 12345;
                same = (x >>> 8) % n == draws[k];
            }
            if (same) {
                return seed;
            }
        }
        throw new IllegalStateException("no seed draws so");
    }

    /** Runs every method of a test that bears a promise's number, so that none is forgotten. */
    static void promises(Class<?> test) {
        Method[] methods = test.getDeclaredMethods();
        Arrays.sort(methods, Comparator.comparing(Method::getName));
        for (Method method : methods) {
            if (method.getName().startsWith("promise")) {
                part = method.getName() + ": ";
                int before = asked;
                runs(method);
                is("asks something", asked > before, true);
            }
        }
        part = "";
        close(test.getSimpleName());
    }

    private static void runs(Method method) {
        try {
            method.invoke(null);
        } catch (InvocationTargetException e) {
            is("threw " + e.getCause(), 1, 0);
        } catch (IllegalAccessException e) {
            is("can't be run", 1, 0);
        }
    }

    static void close(String test) {
        System.out.println(test + ": " + asked + " answers, " + wrong + " wrong");
        if (wrong > 0 || asked == 0) {
            System.exit(1);
        }
    }
}
