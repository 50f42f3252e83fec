/** What the tests share: the findings, comparing, and feeding a text. */
final class Checks {
    static final int BEYOND = -1000001;
    static final int FULL = -1000002;
    static final int KIND = -1000003;
    static final int NONE = -1000004;
    static final int STATE = -1000005;
    static final int MISSING = -1000006;
    static final int SIZE = -1000007;

    private static int asked = 0;
    private static int wrong = 0;
    private static String sentence = "";

    private Checks() {
    }

    /** The sentence of the document that the next answers are asked for; told with those that are not as due. */
    static void sentence(String words) {
        sentence = "[" + words + "] ";
    }

    static void due(String call, long got, long want) {
        asked++;
        if (got != want) {
            wrong++;
            System.out.println(sentence + call + " answered " + got + ", due is " + want);
        }
    }

    static void holds(String what, boolean is) {
        asked++;
        if (!is) {
            wrong++;
            System.out.println(sentence + "not so: " + what);
        }
    }

    static int feed(WildBells x, String s) {
        int size = x.count(5);
        for (int i = 0; i < s.length(); i++) {
            size = x.feed(s.charAt(i), 1);
        }
        return size;
    }

    /** What text() answers to this text on a new tape. */
    static int text(WildBells x, String s) {
        x.wipe();
        feed(x, s);
        return x.text();
    }

    static void sheet(WildBells x, int s, int bits, int... numbers) {
        x.sheet(s, bits, numbers.length);
        for (int i = 0; i < numbers.length; i++) {
            x.write(s, i, numbers[i]);
        }
    }

    /** A new object with the woods that a text tells. */
    static WildBells woods(String s) {
        WildBells x = new WildBells();
        if (text(x, s) < 1) {
            holds("a test's own text is one: " + s, false);
        }
        return x;
    }

    /** Woods with a digit for the THICK of each cell, nets, bells by kinds and cells, hunters from number 0 on. */
    static WildBells scene(String thick, int[] nets, int[] kinds, int[] cells, int fear, int... hunters) {
        WildBells x = new WildBells();
        for (int c = 0; c < 64; c++) {
            x.thick(c, thick.charAt(c) - '0');
        }
        for (int c : nets) {
            x.net(c, 1);
        }
        for (int b = 0; b < kinds.length; b++) {
            x.bell(kinds[b], cells[b]);
        }
        for (int h = 0; h < hunters.length; h++) {
            x.hunter(h, hunters[h]);
        }
        x.fear(fear);
        return x;
    }

    /**
     * Seven bells that walk one behind the other for 79 hours, the last being caught behind 69: behind so many of them.
     * Bells 3, 7, 5, 0, 2 and 6 are caught behind 21, 30, 40, 50, 59 and 69; 4 stays where it comes first, 1 is never caught.
     */
    static WildBells procession(int hours) {
        WildBells x = scene("8901957984900298351777877136197877998869831007699897875655555446", new int[] {2},
            new int[] {4, 3, 4, 4, 5, 4, 4, 4}, new int[] {57, 56, 57, 58, 62, 57, 56, 58}, 0);
        for (int h = 0; h < hours; h++) {
            x.go(1);
        }
        return x;
    }

    static void end() {
        sentence = "";
        System.out.println(wrong == 0 ? asked + " answers are as due" : wrong + " of " + asked + " answers are not as due");
        if (wrong != 0) {
            System.exit(1);
        }
    }
}
