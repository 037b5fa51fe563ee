import java.io.IOException;
import java.lang.reflect.Field;
import java.lang.reflect.Method;
import java.lang.reflect.Modifier;
import java.nio.file.Files;
import java.nio.file.Path;
import java.util.ArrayList;
import java.util.List;
import java.util.Set;
import java.util.TreeSet;

/** What of ../shared/LANGUAGE.md can be seen from the class and its text; the rule's number stands in each name. */
public final class RulesTest {
    private static final Path SOURCE = Path.of("src/main/java/WindowSale.java");
    private static final Set<String> IMPORTS = Set.of("import java.util.Arrays;", "import java.util.NoSuchElementException;");
    private static final String[] NEVER = {"->", "::", "catch (", "try {", "finally", "synchronized", "assert ",
        "Exact(", "static {", "instanceof", "System.out", "package ", "@"};
    private static final Set<Class<?>> CONSTANTS =
        Set.of(int.class, long.class, boolean.class, char.class, String.class, int[].class, long[].class);

    public static void main(String[] args) throws IOException {
        List<String> lines = Files.readAllLines(SOURCE);
        List<Class<?>> classes = new ArrayList<>(List.of(WindowSale.class.getDeclaredClasses()));
        classes.add(WindowSale.class);
        texts(lines);
        methodLengths(lines);
        names(classes);
        Due.is("rule 11: some twelve classes", classes.size() <= 12, true);
        for (Class<?> one : classes) {
            fields(one);
            parameters(one);
        }
        Due.close("RulesTest");
    }

    private static void texts(List<String> lines) {
        for (String line : lines) {
            for (String never : NEVER) {
                Due.is("rules 2, 4, 6: " + line.trim(), line.contains(never), false);
            }
            if (line.startsWith("import ")) {
                Due.is("rule 4: " + line, IMPORTS.contains(line), true);
            }
            Due.is("rule 3: signs 1 to 127: " + line, line.chars().allMatch(sign -> sign >= 1 && sign <= 127), true);
            if (line.contains("throw new")) {
                Due.is("rule 6: " + line.trim(), line.contains("throw new NoSuchElementException(\""), true);
            } else if (line.contains("new ")) {
                boolean made = line.matches(".*= new \\w+(\\[.*\\]|\\(.*\\));");
                Due.is("rule 12: made in a constructor: " + line.trim(), made, true);
            }
        }
    }

    /** A method begins at a line that ends with a brace, in its class's own column, and ends at the brace below it. */
    private static void methodLengths(List<String> lines) {
        int begun = 0;
        String inset = null;
        for (int k = 0; k < lines.size(); k++) {
            String line = lines.get(k);
            if (inset == null && line.matches("( {4}| {8})\\S.*\\) (throws \\w+ )?\\{") && !line.contains("class ")) {
                inset = line.substring(0, line.length() - line.stripLeading().length());
                begun = k;
            } else if (inset != null && line.equals(inset + "}")) {
                Due.is("rule 11: short: " + lines.get(begun).trim(), k - begun < 60, true);
                inset = null;
            }
        }
        Due.is("all methods end", inset == null, true);
    }

    private static void names(List<Class<?>> classes) {
        Set<String> face = new TreeSet<>();
        for (Method method : WindowSale.class.getDeclaredMethods()) {
            if (Modifier.isPublic(method.getModifiers())) {
                face.add(method.getName());
            }
        }
        for (Class<?> one : classes) {
            for (Method method : one.getDeclaredMethods()) {
                boolean ofFace = one == WindowSale.class && Modifier.isPublic(method.getModifiers());
                Due.is("rule 1: " + one.getSimpleName() + "." + method.getName(),
                    ofFace || !face.contains(method.getName()), true);
            }
        }
    }

    private static void fields(Class<?> one) {
        int own = 0;
        for (Field field : one.getDeclaredFields()) {
            if (Modifier.isStatic(field.getModifiers())) {
                boolean constant = Modifier.isFinal(field.getModifiers()) && CONSTANTS.contains(field.getType());
                Due.is("rule 5: " + one.getSimpleName() + "." + field.getName(), constant, true);
            } else {
                own++;
            }
        }
        Due.is("rule 11: some twenty fields: " + one.getSimpleName(), own <= 20, true);
        if (one != WindowSale.class) {
            int kind = one.getModifiers();
            Due.is("rule 1: " + one.getSimpleName(), Modifier.isStatic(kind) && Modifier.isPrivate(kind), true);
        }
    }

    private static void parameters(Class<?> one) {
        for (Method method : one.getDeclaredMethods()) {
            Due.is("rule 11: parameters of " + method.getName(), method.getParameterCount() <= 7, true);
        }
    }
}
