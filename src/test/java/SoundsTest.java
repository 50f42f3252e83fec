/** Promises 22 to 25: where a bell stands by what was heard. */
public final class SoundsTest {
    public static void main(String[] args) {
        standing();
        least();
        oneEarMore();
        heardBells();
        findings();
        Checks.end();
    }

    private static void standing() {
        WildBells x = new WildBells();
        x.sheet(0, 8, 0);
        Checks.due("no ear: anywhere", x.stands(0, 10), 64);
        Checks.sheet(x, 0, 8, 99);
        Checks.due("a last one alone doesn't count", x.stands(0, 10), 64);
        Checks.sheet(x, 0, 8, 27);
        Checks.due("a last ear alone doesn't count", x.stands(0, 10), 64);
        Checks.sheet(x, 0, 8, 27, 10);
        Checks.due("at the ear", x.stands(0, 10), 1);
        Checks.sheet(x, 0, 8, 27, 7);
        Checks.due("beside the ear", x.stands(0, 10), 4);
        Checks.due("of another weight", x.stands(0, 13), 8);
        Checks.due("too loud for it", x.stands(0, 6), 0);
        Checks.sheet(x, 0, 16, 27, 7, 28, 10, -1);
        Checks.due("two ears", x.stands(0, 10), 1);
        Checks.sheet(x, 0, 32, 0, 0);
        Checks.due("not heard", x.stands(0, 10), 64 - 10);
        Checks.due("not heard of weight 1", x.stands(0, 1), 63);
        Checks.sheet(x, 0, 32, 0, 57);
        Checks.due("the heaviest", x.stands(0, 99), 1);
        Checks.sheet(x, 0, 8, 0, -1);
        Checks.due("less than nothing is never heard", x.stands(0, 10), 0);
    }

    private static void least() {
        WildBells x = new WildBells();
        Checks.sheet(x, 3, 8, 27, 7);
        Checks.due("the least", x.where(3, 10), 19);
        Checks.sheet(x, 3, 8, 27, 7, 35, 10);
        Checks.due("the only one", x.where(3, 10), 35);
        Checks.due("none", x.where(3, 11), Checks.NONE);
        Checks.sheet(x, 3, 8, 0, 57);
        Checks.due("the last cell", x.where(3, 99), 63);
        Checks.sheet(x, 3, 8, 7);
        Checks.due("anywhere", x.where(3, 1), 0);
    }

    private static void oneEarMore() {
        WildBells x = new WildBells();
        Checks.sheet(x, 1, 8, 27, 7);
        Checks.due("two by two", x.ear(1, 10), 2);
        Checks.sheet(x, 1, 8, 27, 10);
        Checks.due("one cell: all alike", x.ear(1, 10), 0);
        Checks.due("none", x.ear(1, 11), Checks.NONE);
        x.sheet(1, 8, 0);
        Checks.due("where most are heard", x.ear(1, 10), 27);
        Checks.due("from a corner all are told", x.ear(1, 99), 0);
        Checks.due("so light that it is heard at its own alone", x.ear(1, 1), 0);
        Checks.due("heard beside, too", x.ear(1, 4), 9);
    }

    private static void heardBells() {
        WildBells x = Checks.woods("bell at 19; bell at 28; bell at 27 weight 7; bell at 20 weight 13; bell at 35 weight 11");
        Checks.sheet(x, 2, 8, 27, 7);
        Checks.due("just so loud", x.whose(2), 1 + 2 + 4 + 8);
        x.change(1, 4, 1);
        Checks.due("not a caught one", x.whose(2), 1 + 4 + 8);
        Checks.sheet(x, 2, 8, 27, 7, 19, 10, 64);
        Checks.due("at both ears", x.whose(2), 1 + 8);
        x.sheet(2, 8, 0);
        Checks.due("no ear: all", x.whose(2), 1 + 4 + 8 + 16);
        Checks.sheet(x, 2, 8, 27, 8);
        Checks.due("the right one alone", x.whose(2), 16);
        Checks.sheet(x, 2, 8, 27, 9);
        Checks.due("of none", x.whose(2), 0);
    }

    private static void findings() {
        WildBells x = new WildBells();
        Checks.sheet(x, 0, 8, 64, 0);
        Checks.sheet(x, 1, 8, 0, 10, -1, 7, 3);
        int[][] asked = {{-1, 10}, {4, 10}, {2, 10}, {2, 0}, {0, 0}, {0, 100}, {0, 10}, {1, 10}, {1, -1}};
        int b = Checks.BEYOND;
        int s = Checks.STATE;
        int m = Checks.MISSING;
        int[] told = {b, b, m, m, b, b, s, s, b};
        for (int i = 0; i < asked.length; i++) {
            Checks.due("stands " + i, x.stands(asked[i][0], asked[i][1]), told[i]);
            Checks.due("where " + i, x.where(asked[i][0], asked[i][1]), told[i]);
            Checks.due("ear " + i, x.ear(asked[i][0], asked[i][1]), told[i]);
        }
        Checks.due("whose beyond", x.whose(4), b);
        Checks.due("whose below", x.whose(-1), b);
        Checks.due("whose missing", x.whose(3), m);
        Checks.due("whose without a cell", x.whose(0), s);
        Checks.due("whose with a later ear in no cell", x.whose(1), s);
        Checks.due("told: beyond", x.status(0), 3 * 5 + 2);
        Checks.due("told: state", x.status(4), 3 * 2 + 2);
        Checks.due("told: missing", x.status(5), 3 * 2 + 1);
    }
}
