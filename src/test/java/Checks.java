/** What the tests share: the findings, comparing, and feeding a text. */
final class Checks {
    static final int BEYOND = -1000001;
    static final int FULL = -1000002;
    static final int KIND = -1000003;
    static final int NONE = -1000004;
    static final int STATE = -1000005;
    static final int MISSING = -1000006;
    static final int SIZE = -1000007;

    private static int asked = 0;
    private static int wrong = 0;

    private Checks() {
    }

    static void due(String call, long got, long want) {
        asked++;
        if (got != want) {
            wrong++;
            System.out.println(call + " answered " + got + ", due is " + want);
        }
    }

    static void holds(String what, boolean is) {
        asked++;
        if (!is) {
            wrong++;
            System.out.println("not so: " + what);
        }
    }

    static int feed(WildBells x, String s) {
        int size = x.count(5);
        for (int i = 0; i < s.length(); i++) {
            size = x.feed(s.charAt(i), 1);
        }
        return size;
    }

    /** What text() answers to this text on a new tape. */
    static int text(WildBells x, String s) {
        x.wipe();
        feed(x, s);
        return x.text();
    }

    static void sheet(WildBells x, int s, int bits, int... numbers) {
        x.sheet(s, bits, numbers.length);
        for (int i = 0; i < numbers.length; i++) {
            x.write(s, i, numbers[i]);
        }
    }

    /** A new object with the woods that a text tells. */
    static WildBells woods(String s) {
        WildBells x = new WildBells();
        if (text(x, s) < 1) {
            holds("a test's own text is one: " + s, false);
        }
        return x;
    }

    static void end() {
        System.out.println(wrong == 0 ? asked + " answers are as due" : wrong + " of " + asked + " answers are not as due");
        if (wrong != 0) {
            System.exit(1);
        }
    }
}
