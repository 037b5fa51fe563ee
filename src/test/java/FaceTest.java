import java.lang.reflect.Constructor;
import java.lang.reflect.Field;
import java.lang.reflect.Method;
import java.lang.reflect.Modifier;
import java.util.NoSuchElementException;
import java.util.Random;
import java.util.Set;
import java.util.TreeSet;

/** The public face, and that no call ever throws but what the document says, whatever the arguments. */
public final class FaceTest {
    private static final String FACE = "feed/5 end/1 station/0 fault/0 window/2 stand/2 now/1 train/2 begin/1 "
        + "sell/1 walk/1 waits/1 undo/0 latest/0 heard/0 yet/2 gain/4 better/2 trust/1 plan/4 best/1 sale/2 "
        + "sellers/0 earns/3 curve/2 share/2 race/4 border/0 change/2 weekly/1 needs/1 meant/3 stood/0 idle/0 "
        + "drawn/2 luckiest/2 log/1 logged/1 sentence/0 said/1 image/1 restore/1 count/1";
    private static final Set<String> THROWING = Set.of("window", "yet", "gain", "plan", "earns", "curve", "meant");
    private static final String[] STATIONS = {
        "window 10 2 2 20;window 6 3 1 6;window 20 4 1 30;stands 5 2;stands 9 1;stands 12 3;walk 2;basket 4;",
        "window 1 1 3 99;".repeat(10) + "stands 60 9;basket 24;shy 12;honest 0;",
        "stands 1 1;runner 0;", "window 99 9 0 0;basket 0;whistle 30;", "window 5", ""};
    private static final String[] LOGS = {"train 20;at 0;fruit;coin;up;down;waits 3;", "at 9;", "fruit;up;", "up"};
    private static final String[] SENTENCES = {"open and not (price > 5 or ahead)", "fair or bought = 1", "not", "("};
    private static final int[] ODD = {Integer.MIN_VALUE, Integer.MAX_VALUE, -1000, -2, -1, 24, 25, 59, 60, 61, 999, 1000};

    public static void main(String[] args) throws Exception {
        face();
        for (int run = 0; run < 300; run++) {
            anyCalls(new Random(run));
        }
        Due.close("FaceTest");
    }

    private static void face() {
        Set<String> due = new TreeSet<>(Set.of(FACE.split(" ")));
        Set<String> privates = new TreeSet<>();
        Set<String> found = new TreeSet<>();
        for (Method method : WindowSale.class.getDeclaredMethods()) {
            if (Modifier.isPrivate(method.getModifiers())) {
                privates.add(method.getName());
            } else {
                found.add(method.getName() + "/" + method.getParameterCount());
                Due.is(method.getName() + " is public", Modifier.isPublic(method.getModifiers()), true);
            }
        }
        Due.is("the face " + found, found.equals(due), true);
        for (String name : found) {
            Due.is("no private " + name, privates.contains(name.substring(0, name.indexOf('/'))), false);
        }
        for (Field field : WindowSale.class.getDeclaredFields()) {
            boolean seen = !Modifier.isPrivate(field.getModifiers());
            Due.is("field " + field.getName(), seen, field.getName().equals("NONE"));
        }
        Constructor<?>[] made = WindowSale.class.getConstructors();
        Due.is("one constructor", made.length == 1 && made[0].getParameterCount() == 0, true);
        Due.is("final", Modifier.isFinal(WindowSale.class.getModifiers()), true);
    }

    private static int argument(Random random) {
        int pick = random.nextInt(8);
        return pick == 0 ? ODD[random.nextInt(ODD.length)] : pick < 6 ? random.nextInt(3) : random.nextInt(62);
    }

    private static void anyCalls(Random random) throws Exception {
        WindowSale x = new WindowSale();
        Method[] methods = WindowSale.class.getDeclaredMethods();
        java.util.Arrays.sort(methods, java.util.Comparator.comparing(Method::getName));
        for (int call = 0; call < 400; call++) {
            int pick = random.nextInt(40);
            if (pick < 3) {
                x.end(0);
                String[] texts = pick == 0 ? STATIONS : pick == 1 ? LOGS : SENTENCES;
                Due.tape(x, texts[random.nextInt(texts.length)]);
            }
            Method method = pick == 0 ? WindowSale.class.getMethod("station")
                : methods[random.nextInt(methods.length)];
            if (!Modifier.isPublic(method.getModifiers())) {
                continue;
            }
            Object[] arguments = new Object[method.getParameterCount()];
            for (int k = 0; k < arguments.length; k++) {
                arguments[k] = argument(random);
            }
            String thrown = "";
            try {
                method.invoke(x, arguments);
            } catch (java.lang.reflect.InvocationTargetException e) {
                boolean told = e.getCause() instanceof NoSuchElementException && THROWING.contains(method.getName());
                thrown = told ? "" : e.getCause().toString();
            }
            Due.is(method.getName() + java.util.Arrays.toString(arguments) + " " + thrown, thrown.isEmpty(), true);
        }
    }
}
