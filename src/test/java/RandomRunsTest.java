import java.lang.reflect.InvocationTargetException;
import java.lang.reflect.Method;
import java.lang.reflect.Modifier;
import java.util.ArrayList;
import java.util.Arrays;
import java.util.Comparator;
import java.util.List;
import java.util.Random;

/** Runs of 512 calls of all promises, wrong arguments among them, compared with the Model; the seeds are fixed. */
public final class RandomRunsTest {
    private static final int RUNS = 120;
    private static final int CALLS = 512;
    private static final int DENSE_RUNS = 60;
    private static final int[] ODD = {-1, -2, 1, 2, 8, 64, 100, 1000, 10000, Integer.MAX_VALUE, Integer.MIN_VALUE};
    private static final String[] WORDS = {"bell", "herd", "lone", "tenor", "eldest", "tame", "young", "net ",
        "thick ", "hunter ", "fear "};

    public static void main(String[] args) throws ReflectiveOperationException {
        List<Method> methods = new ArrayList<>();
        for (Method m : WildBells.class.getDeclaredMethods()) {
            if (Modifier.isPublic(m.getModifiers())) {
                methods.add(m);
            }
        }
        methods.sort(Comparator.comparing(Method::getName));
        Checks.due("methods of the face", methods.size(), 48);
        for (int run = 0; run < RUNS; run++) {
            if (!runOnce(new Random(run), methods, run)) {
                break;
            }
        }
        for (int run = 0; run < DENSE_RUNS; run++) {
            if (!denseRun(new Random(run), methods, run)) {
                break;
            }
        }
        procession(methods);
        Checks.end();
    }

    /** The woods of Checks.procession, in which bells go on for longer than one looks ahead. */
    private static void procession(List<Method> methods) throws ReflectiveOperationException {
        WildBells x = Checks.procession(0);
        Model model = new Model();
        for (int c = 0; c < 64; c++) {
            model.answer("thick", new int[] {c, x.cell(c, 1)});
        }
        for (int b = 0; b < 8; b++) {
            model.answer("bell", new int[] {x.of(b, 0), x.of(b, 1)});
        }
        model.answer("net", new int[] {2, 1});
        model.answer("fear", new int[] {0});
        for (int h = 0; h <= 80; h++) {
            both(methods, x, model, "still");
            both(methods, x, model, "caught", 60);
            for (int b = 0; b < 8; b++) {
                both(methods, x, model, "when", b);
                both(methods, x, model, "ahead", b, 60);
            }
            if (h % 10 < 2) {
                both(methods, x, model, "best", 20);
                for (int b = 0; b < 8; b++) {
                    both(methods, x, model, "drive", 0, b);
                    both(methods, x, model, "netFor", b);
                    both(methods, x, model, "kindFor", b);
                }
            }
            both(methods, x, model, "go", 1);
        }
    }

    private static void both(List<Method> methods, WildBells x, Model model, String name, int... a)
        throws ReflectiveOperationException {
        Checks.due("procession: " + name + Arrays.toString(a), call(named(methods, name), x, a), model.answer(name, a));
    }

    /** Woods full of bells, thickets and hunters, and what will be there. */
    private static boolean denseRun(Random r, List<Method> methods, int run) throws ReflectiveOperationException {
        WildBells x = new WildBells();
        Model model = new Model();
        List<String> calls = new ArrayList<>();
        for (int b = 0; b < 3 + r.nextInt(6); b++) {
            calls.add("bell");
        }
        for (int i = 0; i < 50; i++) {
            calls.add(i < 2 ? "hunter" : i < 5 ? "net" : i < 6 ? "fear" : "thick");
        }
        String[] asked = {"ahead", "when", "still", "caught", "netFor", "best", "drive", "kindFor", "of", "worth", "go",
            "change", "thunder", "net", "hunter", "bell"};
        for (int i = 0; i < 100; i++) {
            calls.add(asked[r.nextInt(asked.length)]);
        }
        for (int i = 0; i < calls.size(); i++) {
            Method m = named(methods, calls.get(i));
            int[] a = arguments(r, m);
            long got = call(m, x, a);
            long due = model.answer(m.getName(), a);
            Checks.due("dense run " + run + " call " + i + ": " + m.getName() + Arrays.toString(a), got, due);
            if (got != due) {
                return false;
            }
        }
        return true;
    }

    private static boolean runOnce(Random r, List<Method> methods, int run) throws ReflectiveOperationException {
        WildBells x = new WildBells();
        Model model = new Model();
        List<String> text = new ArrayList<>();
        StringBuilder calls = new StringBuilder();
        for (int i = 0; i < CALLS; i++) {
            Method m = methods.get(r.nextInt(methods.size()));
            if (r.nextInt(5) == 0) {
                m = named(methods, r.nextInt(3) == 0 ? "bell" : r.nextBoolean() ? "change" : "write");
            }
            int[] a = arguments(r, m);
            if (m.getName().equals("text") && r.nextInt(8) > 0) {
                feedBoth(r, x, model);
            }
            if (m.getName().equals("tear") && r.nextInt(4) > 0) {
                m = named(methods, "image");
            }
            long got = call(m, x, a);
            long due = model.answer(m.getName(), a);
            calls.append(m.getName()).append(Arrays.toString(a)).append(' ').append(due).append('\n');
            Checks.due("run " + run + " call " + i + ": " + m.getName() + Arrays.toString(a), got, due);
            if (got != due) {
                System.out.print(calls);
                return false;
            }
        }
        return true;
    }

    private static Method named(List<Method> methods, String name) {
        for (Method m : methods) {
            if (m.getName().equals(name)) {
                return m;
            }
        }
        return methods.get(0);
    }

    private static long call(Method m, WildBells x, int[] a) throws ReflectiveOperationException {
        Object[] given = new Object[a.length];
        for (int i = 0; i < a.length; i++) {
            given[i] = a[i];
        }
        try {
            return ((Number) m.invoke(x, given)).longValue();
        } catch (InvocationTargetException e) {
            System.out.println(m.getName() + Arrays.toString(a) + " threw " + e.getCause());
            return Long.MIN_VALUE;
        }
    }

    private static int[] arguments(Random r, Method m) {
        int[] a = new int[m.getParameterCount()];
        int[] below = mosts(m.getName(), r);
        for (int i = 0; i < a.length; i++) {
            a[i] = r.nextInt(40) == 0 ? ODD[r.nextInt(ODD.length)] : r.nextInt(below[i]);
        }
        if (m.getName().equals("sheet")) {
            a[1] = a[1] < 3 && a[1] >= 0 ? 8 << a[1] : a[1] == 3 ? 0 : a[1];
        }
        boolean mayBeNone = m.getName().equals("hunter") || m.getName().equals("hold");
        if (mayBeNone && r.nextInt(4) == 0) {
            a[1] = -1;
        }
        return a;
    }

    /** For each argument how many values from 0 on are tried mostly. */
    private static int[] mosts(String name, Random r) {
        int[] few = {64, 14, 4, 10};
        int some = few[r.nextInt(4)];
        switch (name) {
            case "net": return new int[] {64, 2};
            case "thick": return new int[] {64, 10};
            case "cell": return new int[] {64, 4};
            case "hunter": return new int[] {4, 64};
            case "fear": return new int[] {10};
            case "bell": return new int[] {7, 64};
            case "of": return new int[] {8, 7};
            case "change": return new int[] {8, 5, some};
            case "worth": case "loud": return new int[] {8, 64};
            case "go": return new int[] {5};
            case "now": return new int[] {5};
            case "ahead": return new int[] {8, 61};
            case "when": case "netFor": case "kindFor": return new int[] {8};
            case "caught": return new int[] {61};
            case "best": return new int[] {21};
            case "drive": return new int[] {4, 8};
            case "stands": case "where": case "ear": return new int[] {2, 100};
            case "whose": case "load": case "judge": return new int[] {3};
            case "stock": return new int[] {10000, 1000, 100};
            case "lasts": return new int[] {10000, 100};
            case "changes": return new int[] {21};
            case "thunder": return new int[] {4};
            case "seed": return new int[] {1 << 30};
            case "feed": return new int[] {1 << 30, 5};
            case "hold": return new int[] {10, 8};
            case "as": return new int[] {10, 7};
            case "sheet": return new int[] {4, 4, r.nextInt(4) == 0 ? 41 : 5};
            case "write": return new int[] {4, 5, r.nextBoolean() ? 8 : some};
            case "copy": return new int[] {4, 4, 4, 4, 4};
            case "count": case "status": return new int[] {8};
            default: return new int[0];
        }
    }

    private static void feedBoth(Random r, WildBells x, Model model) {
        if (r.nextInt(4) > 0) {
            x.wipe();
            model.answer("wipe", new int[0]);
        }
        StringBuilder s = new StringBuilder();
        int items = 1 + r.nextInt(4);
        for (int i = 0; i < items; i++) {
            int word = r.nextInt(WORDS.length);
            s.append(i > 0 ? r.nextBoolean() ? "; " : ";" : "").append(WORDS[word]);
            if (word < 7) {
                s.append(r.nextBoolean() ? " at " + r.nextInt(66) : "").append(r.nextBoolean() ? " note " + r.nextInt(12) : "")
                    .append(r.nextBoolean() ? " weight" + r.nextInt(100) : "");
            } else if (word == 8) {
                s.append(r.nextInt(64)).append(' ').append(r.nextInt(10));
            } else {
                s.append(r.nextInt(word == 7 ? 64 : word == 9 ? 4 : 10));
                s.append(word == 9 && r.nextBoolean() ? " at " + r.nextInt(64) : "");
            }
        }
        if (r.nextInt(4) == 0) {
            s.setCharAt(r.nextInt(s.length()), "; a9zA-at".charAt(r.nextInt(9)));
        }
        for (int i = 0; i < s.length(); i++) {
            int[] a = {s.charAt(i), 1};
            Checks.due("feed " + s, x.feed(a[0], 1), model.answer("feed", a));
        }
    }
}
