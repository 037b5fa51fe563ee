import java.io.IOException;
import java.lang.reflect.InvocationTargetException;
import java.lang.reflect.Method;
import java.nio.file.Files;
import java.nio.file.Path;
import java.util.regex.Matcher;
import java.util.regex.Pattern;

/** That each call of the README's example answers what stands behind it. */
public final class ReadmeTest {
    private static final Pattern CALL = Pattern.compile("x\\.(\\w+)\\((.*?)\\);\\s*// (-?\\w+).*");

    public static void main(String[] args) throws IOException {
        WindowSale x = new WindowSale();
        for (String line : Files.readAllLines(Path.of("README.md"))) {
            Matcher told = CALL.matcher(line);
            if (told.matches()) {
                Due.is(line, answerOf(x, told.group(1), told.group(2)).equals(told.group(3)), true);
            }
        }
        Due.close("ReadmeTest");
    }

    private static String answerOf(WindowSale x, String name, String list) {
        String[] told = list.isEmpty() ? new String[0] : list.split(", ");
        Object[] numbers = new Object[told.length];
        for (int k = 0; k < told.length; k++) {
            numbers[k] = Integer.decode(told[k]);
        }
        for (Method method : WindowSale.class.getMethods()) {
            if (method.getName().equals(name)) {
                try {
                    return String.valueOf(method.invoke(x, numbers));
                } catch (InvocationTargetException e) {
                    return "throws";
                } catch (IllegalAccessException e) {
                    return "can't be called";
                }
            }
        }
        return "no such call";
    }
}
