import java.io.IOException;
import java.lang.reflect.Constructor;
import java.lang.reflect.Field;
import java.lang.reflect.Member;
import java.lang.reflect.Method;
import java.lang.reflect.Modifier;
import java.nio.file.Files;
import java.nio.file.Path;
import java.util.Map;
import java.util.Set;
import java.util.TreeMap;
import java.util.TreeSet;
import java.util.regex.Matcher;
import java.util.regex.Pattern;

/** The public face, and those rules of LANGUAGE.md that can be told from outside or by words. Run from the project's root. */
public final class LanguageTest {
    private static final String FACE = "net 2 thick 2 cell 2 hunter 2 fear 1 bell 2 of 2 change 3 worth 2 go 1 now 1 loud 2 "
        + "ahead 2 when 1 still 0 caught 1 netFor 1 best 1 drive 2 kindFor 1 stands 2 where 2 ear 2 whose 1 stock 3 lasts 2 "
        + "ring 0 rings 0 peals 0 wanted 0 changes 1 thunder 1 seed 1 feed 2 wipe 0 text 0 hold 2 as 2 sheet 3 write 3 "
        + "copy 5 load 1 judge 1 image 0 undo 0 tear 0 count 1 status 1";

    public static void main(String[] args) throws IOException {
        face();
        members();
        words(Files.readString(Path.of("src/main/java/WildBells.java")));
        Checks.end();
    }

    private static void face() {
        Map<String, Integer> due = new TreeMap<>();
        String[] told = FACE.split(" ");
        for (int i = 0; i < told.length; i += 2) {
            due.put(told[i], Integer.valueOf(told[i + 1]));
        }
        Map<String, Integer> there = new TreeMap<>();
        for (Method m : WildBells.class.getDeclaredMethods()) {
            if (Modifier.isPublic(m.getModifiers())) {
                there.put(m.getName(), m.getParameterCount());
                Checks.holds(m + " answers as the face tells", m.getReturnType() == (m.getName().equals("changes") ? long.class : int.class));
                for (Class<?> p : m.getParameterTypes()) {
                    Checks.holds(m + " takes ints", p == int.class);
                }
            }
        }
        Checks.holds("the methods of the face", due.equals(there));
        Checks.holds("public and final", Modifier.isPublic(WildBells.class.getModifiers()) && Modifier.isFinal(WildBells.class.getModifiers()));
        Constructor<?>[] made = WildBells.class.getDeclaredConstructors();
        Checks.holds("one public constructor", made.length == 1 && Modifier.isPublic(made[0].getModifiers()) && made[0].getParameterCount() == 0);
    }

    private static void members() {
        Set<String> names = new TreeSet<>();
        for (Method m : WildBells.class.getDeclaredMethods()) {
            if (Modifier.isPublic(m.getModifiers())) {
                names.add(m.getName());
            }
        }
        Class<?>[] inside = WildBells.class.getDeclaredClasses();
        Checks.holds("at most twelve classes", inside.length < 12);
        for (Class<?> c : inside) {
            Checks.holds(c + " is static", Modifier.isStatic(c.getModifiers()));
            fieldsAndMethods(c, names);
        }
        fieldsAndMethods(WildBells.class, names);
    }

    private static boolean isHidden(Member m) {
        return Modifier.isPrivate(m.getModifiers());
    }

    private static void fieldsAndMethods(Class<?> c, Set<String> names) {
        int fields = 0;
        for (Field f : c.getDeclaredFields()) {
            Checks.holds(f + " is private", isHidden(f));
            Checks.holds(f + " is final, if static", !Modifier.isStatic(f.getModifiers()) || Modifier.isFinal(f.getModifiers()));
            fields += Modifier.isStatic(f.getModifiers()) ? 0 : 1;
        }
        Checks.holds(c + " has at most twenty fields", fields <= 20);
        for (Method m : c.getDeclaredMethods()) {
            boolean ofFace = c == WildBells.class && Modifier.isPublic(m.getModifiers());
            Checks.holds(m + " is private or of the face", ofFace || isHidden(m));
            Checks.holds(m + " bears no public name", ofFace || !names.contains(m.getName()));
            Checks.holds(m + " takes at most seven", m.getParameterCount() <= 7);
        }
    }

    private static void words(String source) {
        String code = source.replaceAll("(?s)/\\*.*?\\*/", " ").replaceAll("//[^\n]*", " ").replaceAll("\"[^\"\n]*\"", "\"\"");
        String[] banned = {"throw", "throws", "try", "catch", "finally", "synchronized", "assert", "import", "package",
            "yield", "var", "volatile", "native", "equals", "hashCode", "toString", "Exception", "Error", "Object", "record"};
        for (String word : banned) {
            Checks.holds("no word " + word, !Pattern.compile("\\b" + word + "\\b").matcher(code).find());
        }
        Checks.holds("no lambda, no method reference", !code.contains("->") && !code.contains("::"));
        Checks.holds("no text is joined by +", !Pattern.compile("\"\\s*\\+|\\+\\s*\"").matcher(code).find());
        Matcher method = Pattern.compile("(?m)^( {4}| {8})(?:public|private)[^;=\n]*\\) \\{\n(?s:.*?)\n\\1\\}$").matcher(source);
        int methods = 0;
        while (method.find()) {
            methods++;
            String[] lines = method.group().split("\n");
            Checks.holds("at most sixty lines: " + lines[0], lines.length <= 60);
        }
        Checks.holds("methods were found: " + methods, methods > 100);
        Matcher made = Pattern.compile("\\bnew\\b").matcher(code);
        int many = 0;
        while (made.find()) {
            many++;
        }
        int inConstructors = 0;
        Matcher constructor = Pattern
            .compile("(?m)^( {4}| {8})(?:public|private) (?:WildBells|Woods|Sheet|Tape)\\(\\) \\{\n(?s:.*?)\n\\1\\}$").matcher(code);
        while (constructor.find()) {
            inConstructors += constructor.group().split("\\bnew\\b", -1).length - 1;
        }
        Checks.due("all that is made is made in constructors", inConstructors, many);
    }
}
