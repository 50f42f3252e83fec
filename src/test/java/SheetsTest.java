/** Promises 38 to 44: spots and sheets. */
public final class SheetsTest {
    private static final int B = Checks.BEYOND;

    public static void main(String[] args) {
        holding();
        kindsOfHeld();
        sheets();
        writing();
        copying();
        copyingOverItself();
        loading();
        judging();
        Checks.end();
    }

    private static void holding() {
        WildBells x = Checks.woods("bell; herd");
        Checks.due("hold", x.hold(0, 1), 1);
        Checks.due("hold in the last", x.hold(9, 0), 1);
        Checks.due("spots", x.count(7), 2);
        Checks.due("held", x.as(0, 0), 1);
        Checks.due("held", x.as(9, 0), 0);
        Checks.due("hold another", x.hold(0, 0), 1);
        Checks.due("held", x.as(0, 0), 0);
        Checks.due("hold nothing", x.hold(0, -1), 1);
        Checks.due("holds nothing", x.as(0, 0), Checks.MISSING);
        Checks.due("hold nothing again", x.hold(0, -1), 1);
        Checks.due("spots", x.count(7), 1);
        int[][] odd = {{-1, 0}, {10, 0}, {0, -2}, {0, 2}, {10, -1}};
        for (int[] o : odd) {
            Checks.due("hold beyond", x.hold(o[0], o[1]), B);
        }
        Checks.due("spots", x.count(7), 1);
        Checks.due("as beyond", x.as(10, 0), B);
        Checks.due("as below", x.as(-1, 0), B);
        Checks.due("as kind 7", x.as(0, 7), B);
        Checks.due("as kind -1", x.as(9, -1), B);
    }

    private static void kindsOfHeld() {
        // For each kind those that it is as, as a set.
        int[] as = {1, 1 + 2, 1 + 4, 1 + 4 + 8, 1 + 4 + 8 + 16, 1 + 32, 1 + 2 + 64};
        WildBells x = Checks.woods("net 1; bell; bell");
        x.hold(4, 1);
        for (int k = 0; k < 7; k++) {
            x.change(1, 0, k);
            for (int over = 0; over < 7; over++) {
                Checks.due(k + " as " + over, x.as(4, over), (as[k] >> over & 1) == 1 ? 1 : Checks.KIND);
            }
        }
        Checks.due("told", x.status(2), 49 - 17);
    }

    private static void sheets() {
        WildBells x = new WildBells();
        Checks.due("8 bits", x.sheet(0, 8, 40), 40);
        Checks.due("16 bits", x.sheet(3, 16, 1), 1);
        Checks.due("32 bits", x.sheet(1, 32, 0), 0);
        Checks.due("the last number", x.write(0, 39, 1), 1);
        Checks.due("no number", x.write(1, 0, 1), B);
        Checks.due("anew", x.sheet(0, 8, 40), 40);
        Checks.due("all 0", x.judge(0), 1);
        x.sheet(2, 8, 40);
        Checks.due("all 0, heard nowhere", x.stands(0, 99), 0);
        Checks.due("missing", x.sheet(0, 0, 40), 0);
        Checks.due("is missing", x.load(0), Checks.MISSING);
        Checks.due("missing again", x.sheet(0, 0, 0), 0);
        Checks.due("sheet 4", x.sheet(4, 8, 1), B);
        Checks.due("sheet -1", x.sheet(-1, 8, -1), B);
        Checks.due("9 bits", x.sheet(1, 9, 1), B);
        Checks.due("-8 bits", x.sheet(1, -8, -1), B);
        Checks.due("64 bits", x.sheet(1, 64, -1), B);
        Checks.due("size", x.sheet(3, 8, -1), Checks.SIZE);
        Checks.due("size with bits 0", x.sheet(3, 0, -1), Checks.SIZE);
        Checks.due("least size", x.sheet(3, 8, Integer.MIN_VALUE), Checks.SIZE);
        Checks.due("41", x.sheet(3, 8, 41), B);
        Checks.due("41 with bits 0", x.sheet(3, 0, 41), B);
        Checks.due("unchanged", x.write(3, 0, 5), 1);
        Checks.due("told: size", x.status(6), 3);
    }

    private static void writing() {
        WildBells x = Checks.woods("bell; bell; bell; bell; bell; bell; bell; bell");
        int[] bits = {8, 16, 32};
        for (int b : bits) {
            x.sheet(0, b, 2);
            Checks.due("write", x.write(0, 1, 57), 1);
            // An ear at cell 0 that hears 57.
            Checks.due("written", x.where(0, 57), 0);
            Checks.due("written just so", x.where(0, 56), Checks.NONE);
        }
        x.sheet(0, 8, 1);
        x.write(0, 0, 256 + 11);
        Checks.due("lowest 8 bits", x.load(0), 1);
        Checks.due("lowest 8 bits", x.of(0, 2), 11);
        x.write(0, 0, 255);
        Checks.due("8 bits with their sign", x.load(0), 0);
        x.sheet(0, 16, 1);
        x.write(0, 0, 65536 + 7);
        Checks.due("lowest 16 bits", x.load(0), 1);
        Checks.due("lowest 16 bits", x.of(0, 2), 7);
        x.write(0, 0, 256 + 7);
        Checks.due("16 bits are more than 8", x.load(0), 0);
        x.sheet(0, 32, 1);
        x.write(0, 0, 65536 + 7);
        Checks.due("32 bits are more than 16", x.load(0), 0);
        Checks.due("write on no sheet", x.write(4, 0, 0), B);
        Checks.due("write on no sheet", x.write(-1, 0, 0), B);
        Checks.due("write on a missing one", x.write(1, -1, 0), Checks.MISSING);
        Checks.due("write number 1", x.write(0, 1, 0), B);
        Checks.due("write number -1", x.write(0, -1, 0), B);
    }

    private static void copying() {
        WildBells x = Checks.woods("bell; bell; bell; bell; bell; bell");
        Checks.sheet(x, 0, 8, 1, 2, 3, 4, 5);
        Checks.sheet(x, 1, 8, 6, 7, 8);
        Checks.sheet(x, 2, 16, 9);
        Checks.due("copy", x.copy(0, 3, 1, 0, 2), 2);
        Checks.due("load", x.load(1), 3);
        notes(x, 4, 5, 8);
        Checks.due("copy none", x.copy(0, 5, 1, 3, 0), 0);
        Checks.due("copy all", x.copy(1, 0, 0, 2, 3), 3);
        Checks.due("load", x.load(0), 5);
        notes(x, 1, 2, 4, 5, 8);
        Checks.due("from no sheet", x.copy(4, 0, 0, 0, 0), B);
        Checks.due("to no sheet", x.copy(3, 0, -1, 0, 0), B);
        Checks.due("from a missing one", x.copy(3, 0, 0, 0, 0), Checks.MISSING);
        Checks.due("to a missing one", x.copy(2, -1, 3, 0, 0), Checks.MISSING);
        Checks.due("other bits", x.copy(0, -1, 2, 0, 9), Checks.KIND);
        int max = Integer.MAX_VALUE;
        int[][] odd = {{-1, 0, 1}, {0, -1, 1}, {0, 0, -1}, {3, 0, 3}, {0, 1, 3}, {6, 0, 0}, {0, 4, 0}, {0, 0, 4},
            {max, 0, 1}, {0, max, 1}, {1, 1, max}, {max, max, max}, {Integer.MIN_VALUE, 0, max}};
        for (int[] o : odd) {
            Checks.due("copy " + o[0] + " " + o[1] + " " + o[2], x.copy(0, o[0], 1, o[1], o[2]), B);
        }
        x.load(1);
        notes(x, 4, 5, 8);
    }

    private static void copyingOverItself() {
        WildBells x = Checks.woods("bell; bell; bell; bell; bell");
        Checks.sheet(x, 0, 32, 1, 2, 3, 4, 5);
        Checks.due("up", x.copy(0, 0, 0, 1, 4), 4);
        x.load(0);
        notes(x, 1, 1, 2, 3, 4);
        Checks.due("down", x.copy(0, 2, 0, 0, 3), 3);
        x.load(0);
        notes(x, 2, 3, 4, 3, 4);
    }

    private static void notes(WildBells x, int... due) {
        for (int b = 0; b < due.length; b++) {
            Checks.due("note of " + b, x.of(b, 2), due[b]);
        }
    }

    private static void loading() {
        WildBells x = Checks.woods("bell; bell; bell note 5");
        Checks.sheet(x, 0, 8, 11, 0, 12, 3);
        Checks.due("till one is no note", x.load(0), 2);
        notes(x, 11, 0, 5);
        x.write(0, 0, -1);
        Checks.due("none", x.load(0), 0);
        notes(x, 11, 0, 5);
        Checks.sheet(x, 0, 8, 1, 2, 3, 4);
        Checks.due("till there is no bell", x.load(0), 3);
        notes(x, 1, 2, 3);
        Checks.sheet(x, 0, 8, 9);
        Checks.due("till the sheet ends", x.load(0), 1);
        notes(x, 9, 2, 3);
        Checks.due("load no sheet", x.load(4), B);
        Checks.due("load no sheet", x.load(-1), B);
        Checks.due("load a missing one", x.load(1), Checks.MISSING);
    }

    private static void judged(WildBells x, int due, int... numbers) {
        Checks.sheet(x, 0, 8, numbers);
        Checks.due("judge", x.judge(0), due);
    }

    private static void judging() {
        WildBells x = Checks.woods("bell note 5; bell note 3; bell note 4; bell note 6; bell note 3; bell note 11");
        judged(x, 0);
        judged(x, 0, 0);
        judged(x, 0, 1, 2, 0, 3);
        judged(x, 0, 4, 0, 3);
        judged(x, 2, 0, 1);
        judged(x, 3, 1, 2, 2);
        judged(x, 4, 1, 2, 0, 1);
        judged(x, 2, 1, 4);
        judged(x, 2, 1, 3);
        judged(x, 3, 0, 3, 5);
        judged(x, 1, 6, 0);
        judged(x, 1, -1);
        judged(x, 3, 1, 2, 6, 9);
        judged(x, 3, 1, 2, -1);
        x.change(1, 4, 1);
        judged(x, 0, 1, 2);
        Checks.due("judge no sheet", x.judge(4), B);
        Checks.due("judge no sheet", x.judge(-1), B);
        Checks.due("judge a missing one", x.judge(1), Checks.MISSING);
    }
}
