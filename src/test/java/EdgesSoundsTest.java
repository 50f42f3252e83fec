/** Edges that the document names, sentence by sentence: sounds, stocks, rings, changes; promises 22 to 32. */
public final class EdgesSoundsTest {
    public static void main(String[] args) {
        byTwos();
        lastAlone();
        noEar();
        weights();
        howLoud();
        loudByBits();
        earIsNoCell();
        leastSuchCell();
        noneSuchCell();
        fewestAtWorst();
        leastEar();
        earNone();
        whoseNotCaught();
        whoseJustSo();
        stockNoYear();
        stockMost();
        noMoreThanThereAre();
        tenthIsCut();
        stockCapped();
        lastsEdges();
        lastsNoLess();
        notesUnlike();
        byOneOrTwo();
        noBells();
        caughtOrNot();
        leastOfRings();
        pealsCounted();
        wantedEdges();
        changesEdges();
        Checks.end();
    }

    private static int apart(int one, int other) {
        return Math.abs(one / 8 - other / 8) + Math.abs(one % 8 - other % 8);
    }

    private static int loud(int weight, int one, int other) {
        return Math.max(0, weight - 3 * apart(one, other));
    }

    private static void byTwos() {
        Checks.sentence("by twos a CELL (an ear) and how LOUD");
        WildBells x = new WildBells();
        Checks.sheet(x, 0, 16, 0, 40, 63, 10);
        int many = 0;
        for (int c = 0; c < 64; c++) {
            many += loud(43, c, 0) == 40 && loud(43, c, 63) == 10 ? 1 : 0;
        }
        Checks.due("none is so near to 63", many, 0);
        Checks.due("stands", x.stands(0, 43), many);
        x.write(0, 3, 4);
        Checks.due("beside cell 0", x.stands(0, 43), 2);
        Checks.due("of them", x.where(0, 43), 1);
        x.write(0, 2, 7);
        x.write(0, 3, 43 - 3 * 6);
        Checks.due("the right one", x.stands(0, 43), 1);
        x.write(0, 2, 0);
        x.write(0, 3, 40);
        Checks.due("the same ear twice", x.stands(0, 43), 2);
        x.write(0, 3, 37);
        Checks.due("the same ear, another sound", x.stands(0, 43), 0);
    }

    private static void lastAlone() {
        Checks.sentence("(a last one alone doesn't count)");
        WildBells x = Checks.woods("bell at 9");
        for (int last : new int[] {0, 63, 64, -1, 99}) {
            Checks.sheet(x, 0, 8, last);
            Checks.due("alone " + last, x.stands(0, 10), 64);
            Checks.due("whose " + last, x.whose(0), 1);
            Checks.sheet(x, 1, 8, 0, 10, last);
            Checks.due("behind two " + last, x.stands(1, 10), 1);
            Checks.due("behind two, where " + last, x.where(1, 10), 0);
            Checks.due("behind two, ear " + last, x.ear(1, 10), 0);
            Checks.due("behind two, whose " + last, x.whose(1), 0);
        }
    }

    private static void noEar() {
        Checks.sentence("a sheet of no numbers tells no ear");
        WildBells x = Checks.woods("bell at 9; bell at 63; bell");
        x.change(1, 4, 1);
        x.sheet(3, 32, 0);
        Checks.due("stands", x.stands(3, 1), 64);
        Checks.due("where", x.where(3, 99), 0);
        Checks.due("whose", x.whose(3), 1 + 4);
    }

    private static void weights() {
        Checks.sentence("a BELL of WEIGHT w (1 to 99)");
        WildBells x = new WildBells();
        for (int w = 1; w < 100; w++) {
            Checks.sheet(x, 0, 8, 27, w);
            Checks.due("at the ear " + w, x.stands(0, w), 1);
            Checks.due("at the ear " + w, x.where(0, w), 27);
            Checks.due("one heavier", w < 99 ? x.stands(0, w + 1) : 0, 0);
        }
        Checks.due("0", x.stands(0, 0), Checks.BEYOND);
        Checks.due("100", x.stands(0, 100), Checks.BEYOND);
    }

    private static void howLoud() {
        Checks.sentence("In how many CELLS a BELL may stand, so that it is LOUD as a sheet tells");
        WildBells x = new WildBells();
        for (int ear : new int[] {0, 7, 27, 63}) {
            for (int heard = -1; heard < 44; heard++) {
                Checks.sheet(x, 0, 8, ear, heard);
                int many = 0;
                for (int c = 0; c < 64; c++) {
                    many += loud(20, c, ear) == heard ? 1 : 0;
                }
                Checks.due("at " + ear + " is heard " + heard, x.stands(0, 20), many);
            }
        }
    }

    private static void loudByBits() {
        Checks.sentence("rows of numbers of 8, 16 or 32 bits (told with their sign)");
        WildBells x = new WildBells();
        int[] bits = {8, 16, 32};
        for (int b : bits) {
            Checks.sheet(x, 0, b, 0, 256);
            Checks.due("0 is heard in 8 bits alone", x.stands(0, 1), b == 8 ? 63 : 0);
            Checks.sheet(x, 0, b, 256, 0);
            Checks.due("a cell in 8 bits alone", x.stands(0, 1), b == 8 ? 63 : Checks.STATE);
            Checks.sheet(x, 0, b, 65536 + 63, 1);
            Checks.due("a cell not in 32 bits", x.where(0, 1), b == 32 ? Checks.STATE : 63);
        }
    }

    private static void earIsNoCell() {
        Checks.sentence("STATE: an ear is no CELL");
        WildBells x = new WildBells();
        for (int ear : new int[] {-1, 64, -128, 127}) {
            Checks.sheet(x, 0, 8, ear, 0);
            Checks.due("stands", x.stands(0, 10), Checks.STATE);
            Checks.due("where", x.where(0, 10), Checks.STATE);
            Checks.due("ear", x.ear(0, 10), Checks.STATE);
            Checks.due("whose", x.whose(0), Checks.STATE);
            Checks.sheet(x, 0, 8, 0, 99, ear, 0);
            Checks.due("though none can stand so", x.stands(0, 10), Checks.STATE);
            Checks.due("though no bell is there", x.whose(0), Checks.STATE);
        }
        Checks.sheet(x, 0, 32, 0, Integer.MIN_VALUE, 63, Integer.MAX_VALUE);
        Checks.due("what is heard may be any", x.stands(0, 10), 0);
    }

    private static void leastSuchCell() {
        Checks.sentence("where: The least such CELL");
        WildBells x = new WildBells();
        for (int c = 0; c < 64; c++) {
            Checks.sheet(x, 0, 8, 0, loud(99, c, 0), 7, loud(99, c, 7));
            Checks.due("the only one", x.stands(0, 99), 1);
            Checks.due("where", x.where(0, 99), c);
        }
        Checks.sheet(x, 0, 8, 63, 96);
        Checks.due("of two", x.where(0, 99), 55);
    }

    private static void noneSuchCell() {
        Checks.sentence("where: NONE");
        WildBells x = new WildBells();
        Checks.sheet(x, 0, 8, 0, 11);
        Checks.due("stands", x.stands(0, 10), 0);
        Checks.due("where", x.where(0, 10), Checks.NONE);
        Checks.due("ear", x.ear(0, 10), Checks.NONE);
        Checks.due("told", x.status(3), 2);
    }

    /** How many of these cells would be left at worst by an ear more there, by plain trying. */
    private static int left(int[] cells, int ear, int weight) {
        int worst = 0;
        for (int heard = 0; heard < 100; heard++) {
            int many = 0;
            for (int c : cells) {
                many += loud(weight, c, ear) == heard ? 1 : 0;
            }
            worst = Math.max(worst, many);
        }
        return worst;
    }

    private static void fewestAtWorst() {
        Checks.sentence("ear: would leave fewest of these CELLS, at worst (whatever it hears)");
        WildBells x = new WildBells();
        for (int heard = 0; heard < 30; heard++) {
            for (int weight : new int[] {1, 3, 4, 7, 20, 30, 44, 99}) {
                Checks.sheet(x, 0, 8, 27, heard);
                int[] cells = new int[64];
                int many = 0;
                for (int c = 0; c < 64; c++) {
                    if (loud(weight, c, 27) == heard) {
                        cells[many++] = c;
                    }
                }
                int[] there = java.util.Arrays.copyOf(cells, many);
                int best = many == 0 ? Checks.NONE : 0;
                for (int c = 1; c < 64 && many > 0; c++) {
                    best = left(there, c, weight) < left(there, best, weight) ? c : best;
                }
                Checks.due("weight " + weight + " heard " + heard, x.ear(0, weight), best);
            }
        }
    }

    private static void leastEar() {
        Checks.sentence("ear: of several the least");
        WildBells x = new WildBells();
        Checks.sheet(x, 0, 8, 63, 10);
        Checks.due("one cell: any ear", x.ear(0, 10), 0);
        x.sheet(0, 8, 0);
        Checks.due("heard at its own alone: any ear", x.ear(0, 3), 0);
    }

    private static void earNone() {
        Checks.sentence("ear: NONE: there are none");
        WildBells x = new WildBells();
        Checks.sheet(x, 0, 8, 0, 10, 63, 10);
        Checks.due("two sounds that can't be", x.ear(0, 10), Checks.NONE);
    }

    private static void whoseNotCaught() {
        Checks.sentence("whose: BELLS (not CAUGHT)");
        WildBells x = Checks.woods("bell;bell;bell;bell;bell;bell;bell;bell");
        Checks.sheet(x, 0, 8, 0, 10);
        int set = 255;
        for (int b = 0; b < 8; b++) {
            Checks.due("free ones", x.whose(0), set);
            x.change(b, 4, 1);
            set &= ~(1 << b);
        }
        Checks.due("none", x.whose(0), 0);
        Checks.due("none without bells, too", noBellsWhose(), 0);
    }

    private static int noBellsWhose() {
        WildBells x = new WildBells();
        Checks.sheet(x, 0, 8, 0, 10);
        return x.whose(0);
    }

    private static void whoseJustSo() {
        Checks.sentence("whose: that are just so LOUD at the ears as it tells, as a set");
        WildBells x = Checks.woods("bell at 1 weight 13; bell at 2 weight 16; bell at 2 weight 17; bell at 9 weight 16");
        Checks.sheet(x, 0, 8, 0, 10);
        Checks.due("at one ear", x.whose(0), 1 + 2 + 8);
        Checks.sheet(x, 0, 8, 0, 10, 8, 7);
        Checks.due("at both", x.whose(0), 1 + 2);
        Checks.sheet(x, 0, 8, 0, 10, 8, 13);
        Checks.due("at both", x.whose(0), 8);
        Checks.sheet(x, 0, 8, 0, 9, 8, 13);
        Checks.due("one less", x.whose(0), 0);
        Checks.sheet(x, 0, 8, 63, 0);
        Checks.due("not heard there", x.whose(0), 15);
    }

    private static void stockNoYear() {
        Checks.sentence("stock: behind y (0 to 99) years");
        WildBells x = new WildBells();
        Checks.due("0 years", x.stock(9999, 999, 0), 9999);
        Checks.due("0 years of nothing", x.stock(0, 0, 0), 0);
        int there = 100;
        for (int y = 1; y < 100; y++) {
            there = Math.min(9999, there + there / 10);
            Checks.due(y + " years", x.stock(100, 0, y), there);
        }
    }

    private static void stockMost() {
        Checks.sentence("stock: n (0 to 9999), c (0 to 999)");
        WildBells x = new WildBells();
        Checks.due("most", x.stock(9999, 0, 1), 9999);
        Checks.due("most caught", x.stock(9999, 999, 1), 9900);
        Checks.due("none", x.stock(0, 999, 99), 0);
        Checks.due("one", x.stock(1, 0, 99), 1);
    }

    private static void noMoreThanThereAre() {
        Checks.sentence("stock: c are CAUGHT (no more than there are)");
        WildBells x = new WildBells();
        for (int n = 0; n < 30; n++) {
            Checks.due("all of " + n, x.stock(n, n, 1), 0);
            Checks.due("one more than " + n, x.stock(n, n + 1, 1), 0);
            Checks.due("one less than " + (n + 1), x.stock(n + 1, n, 1), 1);
        }
    }

    private static void tenthIsCut() {
        Checks.sentence("stock: then there is a tenth (cut) more");
        WildBells x = new WildBells();
        int[][] cases = {{9, 9}, {10, 11}, {19, 20}, {20, 22}, {99, 108}, {100, 110}, {9089, 9997}, {9090, 9999}};
        for (int[] c : cases) {
            Checks.due("of " + c[0], x.stock(c[0], 0, 1), c[1]);
        }
        Checks.due("of those that are left", x.stock(20, 1, 1), 20);
    }

    private static void stockCapped() {
        Checks.sentence("stock: 9999 at most");
        WildBells x = new WildBells();
        Checks.due("10000 would be", x.stock(9091, 0, 1), 9999);
        Checks.due("each year", x.stock(9999, 999, 2), 9791);
        Checks.due("each year, not at the end alone", x.stock(9999, 900, 99), 9999);
    }

    private static void lastsEdges() {
        Checks.sentence("lasts: The greatest c (0 to 999)");
        WildBells x = new WildBells();
        Checks.due("of nothing any catch lasts", x.lasts(0, 1), 999);
        Checks.due("of nothing any catch lasts", x.lasts(0, 99), 999);
        Checks.due("of 1", x.lasts(1, 1), 0);
        Checks.due("of 9", x.lasts(9, 99), 0);
        Checks.due("of 11", x.lasts(11, 1), 1);
        Checks.due("of 9999 behind 1", x.lasts(9999, 1), 909);
        Checks.due("of 9999 behind 99", x.lasts(9999, 99), 909);
    }

    private static void lastsNoLess() {
        Checks.sentence("lasts: with which a stock of n is no less behind y (1 to 99) years");
        WildBells x = new WildBells();
        for (int n = 1; n < 10000; n += 777) {
            for (int y = 1; y < 100; y += 49) {
                int c = x.lasts(n, y);
                Checks.holds(n + " is no less behind " + y, x.stock(n, c, y) >= n);
                Checks.holds(n + " is less with one more behind " + y, x.stock(n, c + 1, y) < n);
            }
        }
    }

    private static void rings(String text, int ring, int rings) {
        WildBells x = Checks.woods(text);
        Checks.due("ring of " + text, x.ring(), ring);
        Checks.due("rings of " + text, x.rings(), rings);
    }

    private static void notesUnlike() {
        Checks.sentence("A RING: some BELLS whose NOTES are all unlike");
        rings("bell;bell;bell", 1, 1);
        rings("bell note 4;bell note 4;bell note 5", 2, 1 + 4);
        rings("bell note 5;bell note 4;bell note 4", 2, 1 + 2);
    }

    private static void byOneOrTwo() {
        Checks.sentence("each but the least is by 1 or 2 more than the one next below it");
        for (int note = 0; note < 12; note++) {
            rings("bell note " + note + ";bell note 0", note == 1 || note == 2 ? 2 : 1, note == 1 || note == 2 ? 3 : 1);
        }
        rings("bell;bell note 2;bell note 5;bell note 7;bell note 8", 3, 4 + 8 + 16);
        rings("bell note 11;bell note 9;bell note 7;bell note 5;bell note 3;bell note 1", 6, 63);
        rings("bell note 11;bell", 1, 1);
    }

    private static void noBells() {
        Checks.sentence("ring: (0: there are no BELLS); peals: (not of none)");
        WildBells x = new WildBells();
        Checks.due("ring", x.ring(), 0);
        Checks.due("rings", x.rings(), 0);
        Checks.due("peals", x.peals(), 0);
        x.bell(0, 0);
        Checks.due("ring of one", x.ring(), 1);
        Checks.due("rings of one", x.rings(), 1);
        Checks.due("peals of one", x.peals(), 1);
    }

    private static void caughtOrNot() {
        Checks.sentence("ring: How many BELLS (CAUGHT or not)");
        WildBells x = Checks.woods("bell;bell note 1;bell note 3");
        for (int b = 0; b < 3; b++) {
            x.change(b, 4, 1);
            Checks.due("ring", x.ring(), 3);
            Checks.due("rings", x.rings(), 7);
            Checks.due("peals", x.peals(), 6);
        }
    }

    private static void leastOfRings() {
        Checks.sentence("rings: of several the least");
        rings("bell note 8;bell note 9;bell;bell note 1", 2, 3);
        rings("bell note 8;bell;bell note 1;bell note 9", 2, 2 + 4);
        rings("bell note 1;bell note 2;bell note 2;bell note 1", 2, 3);
        rings("bell note 6;bell note 3;bell note 9;bell;bell note 11;bell note 11;bell note 11;bell note 11", 2, 4 + 16);
    }

    private static void pealsCounted() {
        Checks.sentence("peals: How many sets of BELLS are RINGS");
        String[] texts = {"bell;bell", "bell;bell note 1", "bell;bell note 2", "bell;bell note 3", "bell;bell note 1;bell note 2",
            "bell;bell note 1;bell note 1"};
        int[] due = {2, 3, 3, 2, 7, 5};
        for (int i = 0; i < texts.length; i++) {
            Checks.due(texts[i], Checks.woods(texts[i]).peals(), due[i]);
        }
        WildBells x = new WildBells();
        for (int b = 0; b < 8; b++) {
            x.bell(0, 0);
        }
        Checks.due("eight of one note", x.peals(), 8);
    }

    private static void wantedEdges() {
        Checks.sentence("wanted: The NOTE (0 to 11) of one BELL more by which the greatest RING would be of most");
        int[] due = {1, 0, 0, 1, 2, 3, 4, 5, 6, 7, 8, 9};
        for (int note = 0; note < 12; note++) {
            Checks.due("with " + note, Checks.woods("bell note " + note).wanted(), due[note]);
        }
        Checks.due("no bells: the least", new WildBells().wanted(), 0);
        WildBells x = Checks.woods("bell;bell note 1;bell note 2;bell note 3;bell note 4;bell note 5;bell note 6;bell note 7");
        Checks.due("though no bell more can come", x.wanted(), 8);
        Checks.due("to the last", Checks.woods("bell note 9;bell note 7;bell note 5;bell note 3;bell note 1;bell note 0;"
            + "bell note 10;bell note 2").wanted(), 4);
    }

    private static void changesEdges() {
        Checks.sentence("changes: n (0 to 20) BELLS");
        WildBells x = new WildBells();
        Checks.due("0", x.changes(0), 1L);
        Checks.due("1", x.changes(1), 1L);
        Checks.due("2", x.changes(2), 2L);
        Checks.due("13 is more than an int", x.changes(13), 6227020800L);
        Checks.due("20", x.changes(20), 2432902008176640000L);
        Checks.due("21", x.changes(21), -1000001L);
        Checks.due("-1", x.changes(-1), -1000001L);
    }
}
