/** Promises 26 to 32: stocks, rings, changes. */
public final class StocksRingsTest {
    public static void main(String[] args) {
        stocks();
        lasting();
        rings();
        wanted();
        orders();
        Checks.end();
    }

    private static void stocks() {
        WildBells x = new WildBells();
        Checks.due("no year", x.stock(105, 999, 0), 105);
        Checks.due("a tenth more", x.stock(100, 0, 1), 110);
        Checks.due("a tenth, cut", x.stock(109, 0, 1), 119);
        Checks.due("below ten none", x.stock(9, 0, 99), 9);
        Checks.due("caught first", x.stock(100, 10, 1), 99);
        Checks.due("two years", x.stock(100, 10, 2), 97);
        Checks.due("no more than there are", x.stock(5, 999, 1), 0);
        Checks.due("none comes of nothing", x.stock(5, 5, 99), 0);
        Checks.due("9999 at most", x.stock(9999, 0, 99), 9999);
        Checks.due("9999 in between, too", x.stock(9999, 909, 99), 9999);
        Checks.due("not any more", x.stock(9999, 910, 1), 9997);
        int[][] odd = {{-1, 0, 0}, {10000, 0, 0}, {0, -1, 0}, {0, 1000, 0}, {0, 0, -1}, {0, 0, 100}};
        for (int[] o : odd) {
            Checks.due("stock beyond", x.stock(o[0], o[1], o[2]), Checks.BEYOND);
        }
        Checks.due("told", x.status(0), odd.length);
    }

    private static void lasting() {
        WildBells x = new WildBells();
        Checks.due("lasts of 0", x.lasts(0, 99), 999);
        Checks.due("lasts of 9", x.lasts(9, 1), 0);
        Checks.due("lasts of 100", x.lasts(100, 10), 9);
        Checks.due("lasts of 9999", x.lasts(9999, 99), 909);
        int[][] odd = {{-1, 1}, {10000, 1}, {5, 0}, {5, 100}, {5, -1}};
        for (int[] o : odd) {
            Checks.due("lasts beyond", x.lasts(o[0], o[1]), Checks.BEYOND);
        }
        Checks.due("told", x.status(0), odd.length);
        for (int n = 0; n < 10000; n += 97) {
            for (int y = 1; y < 100; y += 14) {
                lastingAsByTrying(n, y);
            }
        }
    }

    private static void lastingAsByTrying(int n, int y) {
        WildBells x = new WildBells();
        int lasting = -1;
        for (int c = 0; c < 1000; c++) {
            if (x.stock(n, c, y) >= n) {
                lasting = c;
            }
        }
        Checks.due("lasts " + n + ", " + y, x.lasts(n, y), lasting);
    }

    private static void asked(String text, int ring, int rings, int peals, int wanted) {
        WildBells x = Checks.woods(text);
        Checks.due("ring: " + text, x.ring(), ring);
        Checks.due("rings: " + text, x.rings(), rings);
        Checks.due("peals: " + text, x.peals(), peals);
        Checks.due("wanted: " + text, x.wanted(), wanted);
    }

    private static void rings() {
        WildBells x = new WildBells();
        Checks.due("no bells: ring", x.ring(), 0);
        Checks.due("no bells: rings", x.rings(), 0);
        Checks.due("no bells: peals", x.peals(), 0);
        asked("bell", 1, 1, 1, 1);
        asked("bell note 11", 1, 1, 1, 9);
        asked("bell; bell note 2; bell note 3; bell note 7", 3, 7, 7, 5);
        asked("bell; bell note 3; bell note 6; bell note 9", 1, 1, 4, 1);
        asked("bell note 3; bell note 3; bell note 4", 2, 5, 5, 1);
        asked("bell note 11; bell note 0", 1, 1, 2, 1);
        asked("bell note 8; bell note 1; bell note 7; bell note 2", 2, 5, 6, 0);
        asked("bell; bell note 2; bell note 4; bell note 6; bell note 8; bell note 10; bell note 0", 6, 63, 27, 1);
        asked("bell; bell note 1; bell note 2; bell note 3; bell note 4; bell note 5; bell note 6; bell note 7",
            8, 255, 133, 8);
        x = Checks.woods("bell; bell note 1; bell note 2");
        x.change(1, 4, 1);
        Checks.due("caught or not", x.rings(), 7);
    }

    private static void wanted() {
        Checks.due("no bells: any note", new WildBells().wanted(), 0);
        asked("bell note 0; bell note 1; bell note 5; bell note 6; bell note 7", 3, 28, 10, 3);
        asked("bell note 5; bell note 5; bell note 9", 1, 1, 3, 7);
    }

    private static void orders() {
        WildBells x = new WildBells();
        long orders = 1;
        for (int n = 0; n <= 20; n++) {
            orders *= Math.max(n, 1);
            Checks.due("changes " + n, x.changes(n), orders);
        }
        Checks.due("changes 21", x.changes(21), Checks.BEYOND);
        Checks.due("changes -1", x.changes(-1), Checks.BEYOND);
        Checks.due("told", x.status(0), 2);
    }
}
