/** Edges that the document names, sentence by sentence: findings, the woods, WORTH, NEXT CELL; promises 1 to 10. */
public final class EdgesWoodsTest {
    public static void main(String[] args) {
        findingsAreNumbers();
        anyInt();
        least();
        rowsAndColumns();
        thoseThatThereAre();
        inThisOrder();
        netOrNone();
        thickAtFirst();
        huntersAtFirst();
        fearAtFirst();
        eightBells();
        kindsUnder();
        bellsAtFirst();
        fearAtMost();
        fearIfThereAreNone();
        nineLessThick();
        nearestOtherHerd();
        noOtherHerd();
        caughtHerd();
        twiceThick();
        nearestOther();
        noOther();
        sevenLessRow();
        twiceTenor();
        twiceFromHome();
        othersStandWhereTheyAre();
        ownOfSeveral();
        nextOfCaughtOne();
        netAnswers();
        cellAnswers();
        hunterAnswers();
        bellAnswers();
        changeAnswers();
        Checks.end();
    }

    private static void findingsAreNumbers() {
        Checks.sentence("LOW is -1000001; LOW BEYOND, LOW - 1 FULL, LOW - 2 KIND, LOW - 3 NONE, LOW - 4 STATE, LOW - 5 MISSING, "
            + "LOW - 6 SIZE (in longs, too)");
        WildBells x = new WildBells();
        Checks.due("net beyond", x.net(64, 0), -1000001);
        for (int b = 0; b < 8; b++) {
            x.bell(0, 0);
        }
        Checks.due("a 9th bell", x.bell(0, 0), -1000002);
        x.hold(0, 0);
        Checks.due("as", x.as(0, 1), -1000003);
        Checks.due("undo", x.undo(), -1000004);
        Checks.due("thunder without bells", new WildBells().thunder(1), -1000005);
        Checks.due("load", x.load(0), -1000006);
        Checks.due("sheet", x.sheet(0, 8, -1), -1000007);
        Checks.due("changes", x.changes(21), -1000001L);
    }

    private static void anyInt() {
        Checks.sentence("What seed() and count(6) tell, z, may be any int: that is no finding");
        WildBells x = new WildBells();
        int before = 1;
        for (int v : new int[] {-1000000, -1000001, -1000007, -1000008, 0, Integer.MIN_VALUE, Integer.MAX_VALUE}) {
            Checks.due("seed", x.seed(v), before);
            Checks.due("count 6", x.count(6), v);
            before = v;
        }
        Checks.due("status", x.status(-1), 0);
    }

    private static void least() {
        Checks.sentence("of several that would do the least number counts, where nothing else is told");
        WildBells x = Checks.woods("bell;bell;bell note 1;fear 0");
        x.sheet(0, 8, 0);
        Checks.due("where", x.where(0, 10), 0);
        Checks.due("rings", x.rings(), 1 + 4);
        Checks.due("best", x.best(0), 0);
        Checks.due("kindFor", x.kindFor(0), 0);
        x.net(0, 1);
        Checks.due("drive", x.drive(0, 0), 0);
        Checks.due("netFor", x.netFor(0), 1);
        Checks.due("wanted", x.wanted(), 2);
    }

    private static void rowsAndColumns() {
        Checks.sentence("CELLS 0 to 63, in 8 rows (row: by 8) of 8 columns (the rest); APART: rows and columns together");
        WildBells x = Checks.woods("bell weight 99");
        int[][] apart = {{0, 0, 0}, {0, 7, 7}, {7, 8, 8}, {0, 8, 1}, {0, 56, 7}, {0, 63, 14}, {7, 56, 14}, {56, 7, 14}, {63, 0, 14},
            {27, 36, 2}, {36, 27, 2}, {55, 56, 8}, {15, 16, 8}};
        for (int[] a : apart) {
            x.change(0, 1, a[0]);
            Checks.due("from " + a[0] + " to " + a[1], x.loud(0, a[1]), 99 - 3 * a[2]);
        }
    }

    private static WildBells thicket() {
        WildBells x = new WildBells();
        for (int c = 0; c < 64; c++) {
            x.thick(c, 9);
        }
        x.bell(0, 0);
        return x;
    }

    private static boolean areBeside(int c, int d) {
        int rows = Math.abs(c / 8 - d / 8);
        int columns = Math.abs(c % 8 - d % 8);
        return rows + columns == 1;
    }

    private static void thoseThatThereAre() {
        Checks.sentence("BESIDE a CELL: those up (a row less), right, down, left of it that there are");
        for (int c = 0; c < 64; c++) {
            WildBells x = thicket();
            x.change(0, 1, c);
            for (int d = 0; d < 64; d++) {
                x.thick(d, 8);
                Checks.due("from " + c + " with " + d + " better", x.of(0, 5), areBeside(c, d) ? d : c);
                x.thick(d, 9);
            }
        }
    }

    private static void inThisOrder() {
        Checks.sentence("up, right, down, left, in this order; of several its own, then the first BESIDE");
        int[] ways = {-8, 1, 8, -1};
        for (int first = 0; first < 4; first++) {
            for (int second = first + 1; second < 4; second++) {
                WildBells x = thicket();
                x.change(0, 1, 27);
                x.thick(27 + ways[second], 3);
                Checks.due("one way", x.of(0, 5), 27 + ways[second]);
                x.thick(27 + ways[first], 3);
                Checks.due("of two ways", x.of(0, 5), 27 + ways[first]);
                x.thick(27, 3);
                Checks.due("its own", x.of(0, 5), 27);
                x.thick(27 + ways[second], 2);
                Checks.due("the greatest", x.of(0, 5), 27 + ways[second]);
            }
        }
        WildBells x = thicket();
        for (int way : ways) {
            x.thick(27 + way, 8);
        }
        x.change(0, 1, 27);
        Checks.due("of all four", x.of(0, 5), 19);
    }

    private static void netOrNone() {
        Checks.sentence("Each has a NET or none (0, at first)");
        WildBells x = new WildBells();
        for (int c = 0; c < 64; c++) {
            Checks.due("at first", x.cell(c, 0), 0);
            Checks.due("net " + c, x.net(c, 1), 1);
            Checks.due("one net alone", x.now(2), c + 1);
        }
        Checks.due("all", x.count(3), 64);
        for (int c = 0; c < 64; c++) {
            Checks.due("none " + c, x.net(c, 0), 1);
            Checks.due("that one alone", x.count(3), 63 - c);
        }
    }

    private static void thickAtFirst() {
        Checks.sentence("THICK (0 to 9; 0 at first); THICK of a CELL becomes v: what it was");
        WildBells x = new WildBells();
        for (int c = 0; c < 64; c++) {
            Checks.due("thick " + c, x.thick(c, c % 10), 0);
        }
        for (int c = 0; c < 64; c++) {
            Checks.due("thick " + c, x.cell(c, 1), c % 10);
            Checks.due("thick " + c, x.thick(c, 9), c % 10);
        }
        Checks.due("to 0", x.thick(63, 0), 9);
        Checks.due("0", x.cell(63, 1), 0);
    }

    private static void huntersAtFirst() {
        Checks.sentence("HUNTERS 0 to 3, each AT a CELL or nowhere (-1, at first)");
        WildBells x = new WildBells();
        for (int h = 0; h < 4; h++) {
            Checks.due("hunter " + h, x.hunter(h, 63 - 63 * (h % 2)), -1);
        }
        for (int h = 0; h < 4; h++) {
            Checks.due("hunter " + h, x.hunter(h, -1), 63 - 63 * (h % 2));
            Checks.due("hunter " + h, x.hunter(h, -1), -1);
        }
    }

    private static void fearAtFirst() {
        Checks.sentence("FEAR (0 to 9; 3 at first)");
        WildBells x = new WildBells();
        int was = 3;
        for (int v = 0; v < 10; v++) {
            Checks.due("fear", x.fear(v), was);
            Checks.due("fear", x.now(3), v);
            was = v;
        }
    }

    private static void eightBells() {
        Checks.sentence("BELLS 0, 1, .. (at most 8)");
        WildBells x = new WildBells();
        for (int b = 0; b < 8; b++) {
            Checks.due("none yet", x.of(b, 0), Checks.BEYOND);
            Checks.due("bell " + b, x.bell(0, b), b);
            Checks.due("there", x.of(b, 1), b);
        }
        Checks.due("a 9th", x.bell(0, 8), Checks.FULL);
        Checks.due("a 9th isn't there", x.of(8, 0), Checks.BEYOND);
        x.change(7, 4, 1);
        Checks.due("a caught one makes no room", x.bell(0, 8), Checks.FULL);
        Checks.due("eight", x.count(1), 8);
    }

    private static void kindsUnder() {
        Checks.sentence("0 BELL; 1 HERD, 2 LONE, 5 TAME under BELL; 3 TENOR under LONE; 4 ELDEST under TENOR; 6 YOUNG under HERD");
        int[] above = {-1, 0, 0, 2, 3, 0, 1};
        for (int k = 0; k < 7; k++) {
            WildBells x = new WildBells();
            x.bell(k, 0);
            x.hold(0, 0);
            for (int over = 0; over < 7; over++) {
                boolean is = over == k;
                for (int a = above[k]; a >= 0; a = above[a]) {
                    is |= a == over;
                }
                Checks.due(k + " as " + over, x.as(0, over), is ? 0 : Checks.KIND);
            }
        }
    }

    private static void bellsAtFirst() {
        Checks.sentence("a NOTE (0 to 11; 0 at first), WEIGHT (1 to 99; 10 at first), CAUGHT (1) or not (0, at first)");
        WildBells x = Checks.woods("net 5");
        for (int b = 0; b < 8; b++) {
            x.bell(0, 5);
            Checks.due("note", x.of(b, 2), 0);
            Checks.due("weight", x.of(b, 3), 10);
            Checks.due("caught, at a net, too", x.of(b, 4), 0);
        }
        x = new WildBells();
        x.image();
        x.bell(6, 63);
        x.change(0, 2, 11);
        x.change(0, 3, 99);
        x.change(0, 4, 1);
        x.undo();
        x.bell(0, 0);
        int[] first = {0, 0, 0, 10, 0};
        for (int what = 0; what < 5; what++) {
            Checks.due("a new one in the place of one that is no more " + what, x.of(0, what), first[what]);
        }
    }

    private static void fearAtMost() {
        Checks.sentence("BELL: APART from the nearest HUNTER, FEAR at most, times 10");
        WildBells x = Checks.woods("bell at 63; hunter 0 at 0");
        for (int fear = 0; fear < 10; fear++) {
            x.fear(fear);
            for (int c = 0; c < 8; c++) {
                Checks.due("fear " + fear + " at " + c, x.worth(0, c), 10 * Math.min(c, fear) + 9);
            }
        }
        x.fear(9);
        Checks.due("14 apart", x.worth(0, 63), 99);
        Checks.due("9 apart", x.worth(0, 23), 99);
        Checks.due("8 apart", x.worth(0, 15), 89);
        for (int h = 1; h < 4; h++) {
            x.hunter(h, 22);
            Checks.due("the nearest, hunter " + h, x.worth(0, 23), 19);
            x.hunter(h, -1);
        }
        x.hunter(3, 23);
        Checks.due("at the cell of a hunter", x.worth(0, 23), 9);
    }

    private static void fearIfThereAreNone() {
        Checks.sentence("BELL: APART from the nearest HUNTER (FEAR, if there are none)");
        WildBells x = Checks.woods("bell at 63");
        for (int fear = 0; fear < 10; fear++) {
            x.fear(fear);
            Checks.due("fear " + fear, x.worth(0, 0), 10 * fear + 9);
        }
        x.hunter(0, 0);
        x.hunter(0, -1);
        Checks.due("gone again", x.worth(0, 0), 99);
    }

    private static void nineLessThick() {
        Checks.sentence("and 9 less THICK");
        WildBells x = Checks.woods("bell; fear 0");
        for (int v = 0; v < 10; v++) {
            x.thick(9, v);
            Checks.due("thick " + v, x.worth(0, 9), 9 - v);
        }
    }

    private static void nearestOtherHerd() {
        Checks.sentence("HERD: and 20 less how far APART it is from the nearest other HERD (or under it) (0 at least)");
        WildBells x = Checks.woods("herd; young at 63; fear 0");
        Checks.due("14 apart", x.worth(0, 0), 9 + 6);
        Checks.due("not its own place counts", x.worth(0, 63), 9 + 20);
        Checks.due("of the young", x.worth(1, 63), 9 + 6);
        x.bell(1, 18);
        Checks.due("the nearest", x.worth(0, 0), 9 + 16);
        Checks.due("the nearest of that cell", x.worth(0, 63), 9 + 20);
        Checks.due("the nearest of that cell", x.worth(0, 45), 9 + 16);
    }

    private static void noOtherHerd() {
        Checks.sentence("HERD: (0, if there is none)");
        WildBells x = Checks.woods("herd; bell; lone; tenor; eldest; tame; fear 0");
        Checks.due("others are no herd", x.worth(0, 0), 9);
        x.change(5, 0, 1);
        Checks.due("a herd", x.worth(0, 0), 29);
        x.change(5, 0, 6);
        Checks.due("under it", x.worth(0, 0), 29);
        x.change(5, 0, 0);
        Checks.due("none again", x.worth(0, 0), 9);
    }

    private static void caughtHerd() {
        Checks.sentence("HERD: the nearest other HERD that isn't CAUGHT");
        WildBells x = Checks.woods("herd; herd at 1; herd at 2; fear 0");
        x.change(1, 4, 1);
        Checks.due("the next nearest", x.worth(0, 0), 27);
        x.change(2, 4, 1);
        Checks.due("none", x.worth(0, 0), 9);
        Checks.due("of a caught one, to one that is free", x.worth(1, 0), 29);
    }

    private static void twiceThick() {
        Checks.sentence("YOUNG: as a HERD, and twice THICK");
        WildBells x = Checks.woods("young; fear 0");
        for (int v = 0; v < 10; v++) {
            x.thick(9, v);
            Checks.due("thick " + v, x.worth(0, 9), 9 + v);
        }
        x.bell(1, 9);
        Checks.due("with a herd", x.worth(0, 9), 38);
    }

    private static void nearestOther() {
        Checks.sentence("LONE: and how far APART it is from the nearest other BELL that isn't CAUGHT");
        WildBells x = Checks.woods("lone; bell at 63; fear 0");
        Checks.due("14 apart", x.worth(0, 0), 9 + 14);
        Checks.due("at its cell", x.worth(0, 63), 9);
        x.bell(6, 7);
        Checks.due("the nearest", x.worth(0, 0), 9 + 7);
        x.change(2, 4, 1);
        Checks.due("not a caught one", x.worth(0, 0), 9 + 14);
    }

    private static void noOther() {
        Checks.sentence("LONE: (0, if there is none)");
        WildBells x = Checks.woods("lone; fear 0");
        Checks.due("alone", x.worth(0, 0), 9);
        Checks.due("alone, elsewhere", x.worth(0, 63), 9);
        x.bell(0, 63);
        x.change(1, 4, 1);
        Checks.due("the other is caught", x.worth(0, 0), 9);
        x.change(0, 0, 3);
        Checks.due("a tenor alone", x.worth(0, 0), 9 + 7);
        x.change(0, 0, 4);
        Checks.due("an eldest alone", x.worth(0, 0), 32);
    }

    private static void sevenLessRow() {
        Checks.sentence("TENOR: as LONE, and 7 less its row");
        WildBells x = Checks.woods("tenor; fear 0");
        for (int c = 0; c < 64; c++) {
            Checks.due("at " + c, x.worth(0, c), 9 + 7 - c / 8);
        }
    }

    private static void twiceTenor() {
        Checks.sentence("ELDEST: twice that of TENOR");
        WildBells x = Checks.woods("eldest; tenor; bell at 30; fear 2; hunter 0 at 1; thick 60 9");
        for (int c = 0; c < 64; c++) {
            Checks.due("at " + c, x.worth(0, c), 2 * worthAsTenor(x, c));
        }
        x.fear(0);
        x.change(1, 1, 60);
        Checks.due("0", x.worth(0, 60), 0);
    }

    private static int worthAsTenor(WildBells x, int cell) {
        x.change(0, 0, 3);
        int worth = x.worth(0, cell);
        x.change(0, 0, 4);
        return worth;
    }

    private static void twiceFromHome() {
        Checks.sentence("TAME: as a BELL, less twice APART from CELL 0");
        WildBells x = Checks.woods("tame at 63; fear 0");
        for (int c = 0; c < 64; c++) {
            Checks.due("at " + c, x.worth(0, c), 9 - 2 * (c / 8 + c % 8));
        }
    }

    private static void othersStandWhereTheyAre() {
        Checks.sentence("NEXT CELL: (others standing where they are)");
        WildBells x = Checks.woods("herd at 0; herd at 2");
        Checks.due("to it", x.of(0, 5), 1);
        Checks.due("to the first", x.of(1, 5), 1);
        Checks.due("it stands", x.of(0, 1), 0);
        Checks.due("the other stands", x.of(1, 1), 2);
    }

    private static void ownOfSeveral() {
        Checks.sentence("of several its own");
        for (int c = 0; c < 64; c++) {
            WildBells x = new WildBells();
            x.bell(0, c);
            Checks.due("at " + c, x.of(0, 5), c);
        }
    }

    private static void nextOfCaughtOne() {
        Checks.sentence("Of a BELL: 5 its NEXT CELL, 6 WORTH of its own CELL");
        WildBells x = Checks.woods("tame at 9; bell at 63 note 11 weight 99");
        x.change(0, 4, 1);
        Checks.due("of a caught one", x.of(0, 5), 1);
        Checks.due("of a caught one", x.of(0, 6), 35);
        Checks.due("of the last", x.of(1, 6), 39);
    }

    private static void netAnswers() {
        Checks.sentence("A CELL has a NET (is 1) or none (0): 1 if that is new, else 0");
        WildBells x = new WildBells();
        int[][] calls = {{63, 0, 0}, {63, 1, 1}, {63, 1, 0}, {0, 0, 0}, {0, 1, 1}, {63, 0, 1}, {63, 0, 0}, {0, 1, 0}};
        for (int[] c : calls) {
            Checks.due("net " + c[0] + " " + c[1], x.net(c[0], c[1]), c[2]);
            Checks.due("so it is", x.cell(c[0], 0), c[1]);
        }
    }

    private static void cellAnswers() {
        Checks.sentence("3 how many BELLS (CAUGHT ones, too) are AT it");
        WildBells x = new WildBells();
        for (int b = 0; b < 8; b++) {
            Checks.due("so many", x.cell(63, 3), b);
            x.bell(b % 7, 63);
            x.change(b, 4, b % 2);
        }
        Checks.due("all", x.cell(63, 3), 8);
        Checks.due("none", x.cell(62, 3), 0);
        x.change(0, 1, 0);
        Checks.due("bell 0", x.cell(0, 3), 1);
        Checks.due("the rest", x.cell(63, 3), 7);
    }

    private static void hunterAnswers() {
        Checks.sentence("A HUNTER is AT a CELL (-1: nowhere): where it was");
        WildBells x = new WildBells();
        int[] cells = {0, 63, -1, -1, 63, 63, 0};
        int was = -1;
        for (int c : cells) {
            Checks.due("hunter", x.hunter(2, c), was);
            was = c;
        }
        Checks.due("another", x.hunter(3, 5), -1);
    }

    private static void bellAnswers() {
        Checks.sentence("A new BELL AT a CELL: its number");
        WildBells x = new WildBells();
        Checks.due("first kind, first cell", x.bell(0, 0), 0);
        Checks.due("last kind, last cell", x.bell(6, 63), 1);
        Checks.due("kind", x.of(1, 0), 6);
        Checks.due("cell", x.of(1, 1), 63);
        Checks.due("refused", x.bell(0, 64), Checks.BEYOND);
        Checks.due("the next number", x.bell(1, 63), 2);
    }

    private static void changeAnswers() {
        Checks.sentence("KIND (what 0), AT (1), NOTE (2), WEIGHT (3), CAUGHT (4: 0, 1) of a BELL becomes v: what it was");
        WildBells x = new WildBells();
        for (int b = 0; b < 8; b++) {
            x.bell(0, 0);
        }
        int[][] calls = {{0, 0, 6}, {1, 0, 63}, {2, 0, 11}, {3, 10, 99}, {4, 0, 1}, {3, 99, 1}, {0, 6, 0}, {1, 63, 0}, {2, 11, 0}, {4, 1, 1},
            {4, 1, 0}};
        for (int[] c : calls) {
            Checks.due("change " + c[0], x.change(7, c[0], c[2]), c[1]);
            Checks.due("so it is " + c[0], x.of(7, c[0]), c[2]);
            Checks.due("not another " + c[0], x.of(6, c[0]), c[0] == 3 ? 10 : 0);
        }
    }
}
