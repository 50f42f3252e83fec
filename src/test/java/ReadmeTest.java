import java.io.IOException;
import java.lang.reflect.Method;
import java.lang.reflect.Modifier;
import java.nio.file.Files;
import java.nio.file.Path;
import java.util.regex.Matcher;
import java.util.regex.Pattern;

/** README.md's example answers as its comments tell; its tables name every call and every finding. Run from the project's root. */
public final class ReadmeTest {
    private static final Pattern CALL = Pattern.compile("(?m)^woods\\.(\\w+)\\(([^)]*)\\);\\s*// (-?\\d+):");

    public static void main(String[] args) throws IOException, ReflectiveOperationException {
        String page = Files.readString(Path.of("README.md"));
        example(page);
        calls(page);
        findings(page);
        tests(page);
        Checks.end();
    }

    private static void example(String page) throws ReflectiveOperationException {
        WildBells woods = new WildBells();
        Matcher call = CALL.matcher(page);
        int told = 0;
        while (call.find()) {
            told++;
            Checks.due("README: " + call.group(1) + "(" + call.group(2) + ")",
                answer(woods, call.group(1), call.group(2)), Long.parseLong(call.group(3)));
        }
        Checks.due("calls on woods in README", told, page.split("(?m)^woods\\.", -1).length - 1);
        Checks.holds("README has an example", told > 10);
    }

    private static long answer(WildBells woods, String name, String list) throws ReflectiveOperationException {
        String[] texts = list.isEmpty() ? new String[0] : list.split(", ");
        Class<?>[] types = new Class<?>[texts.length];
        Object[] numbers = new Object[texts.length];
        for (int i = 0; i < texts.length; i++) {
            types[i] = int.class;
            numbers[i] = Integer.decode(texts[i]);
        }
        return ((Number) WildBells.class.getMethod(name, types).invoke(woods, numbers)).longValue();
    }

    private static void calls(String page) {
        for (Method m : WildBells.class.getDeclaredMethods()) {
            if (Modifier.isPublic(m.getModifiers())) {
                Checks.holds("README's table names " + m.getName(), Pattern.compile("(?m)^\\|.*`" + m.getName() + "`").matcher(page).find());
            }
        }
    }

    private static void findings(String page) {
        String[] names = {"BEYOND", "FULL", "KIND", "NONE", "STATE", "MISSING", "SIZE"};
        int[] answers = {Checks.BEYOND, Checks.FULL, Checks.KIND, Checks.NONE, Checks.STATE, Checks.MISSING, Checks.SIZE};
        for (int i = 0; i < names.length; i++) {
            Checks.holds("README tells " + names[i], page.contains("| " + names[i] + " | " + answers[i] + " | " + i + " |"));
        }
    }

    private static void tests(String page) throws IOException {
        try (var files = Files.list(Path.of("src/test/java"))) {
            for (Path file : (Iterable<Path>) files::iterator) {
                String name = file.getFileName().toString().replace(".java", "");
                boolean isNamed = page.contains("`" + name + "`") || name.matches("Edges\\w+Test") || !name.endsWith("Test");
                Checks.holds("README tells of " + name, isNamed);
            }
        }
    }
}
