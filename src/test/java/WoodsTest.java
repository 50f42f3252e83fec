/** Promises 1 to 10: a new object, the woods, hunters, bells. */
public final class WoodsTest {
    public static void main(String[] args) {
        newObject();
        nets();
        thickets();
        cells();
        hunters();
        fears();
        bells();
        traits();
        changed();
        plainWorth();
        herdWorth();
        loneWorth();
        tameWorth();
        nextCells();
        Checks.end();
    }

    private static void newObject() {
        WildBells x = new WildBells();
        for (int what = 0; what < 8; what++) {
            Checks.due("new: count " + what, x.count(what), what == 6 ? 1 : 0);
        }
        for (int which = -1; which < 7; which++) {
            Checks.due("new: status " + which, x.status(which), 0);
        }
        for (int what = 0; what < 5; what++) {
            Checks.due("new: now " + what, x.now(what), what == 3 ? 3 : 0);
        }
        for (int c = 0; c < 64; c++) {
            for (int what = 0; what < 4; what++) {
                Checks.due("new: cell " + c, x.cell(c, what), 0);
            }
        }
        for (int h = 0; h < 4; h++) {
            Checks.due("new: hunter " + h, x.hunter(h, -1), -1);
        }
        for (int s = 0; s < 4; s++) {
            Checks.due("new: sheet " + s, x.load(s), Checks.MISSING);
        }
        for (int s = 0; s < 10; s++) {
            Checks.due("new: spot " + s, x.as(s, 0), Checks.MISSING);
        }
        Checks.due("new: no image", x.undo(), Checks.NONE);
        Checks.due("new: nothing to tear", x.tear(), 0);
        Checks.due("new: no bells", x.of(0, 0), Checks.BEYOND);
    }

    private static void nets() {
        WildBells x = new WildBells();
        Checks.due("net new", x.net(0, 1), 1);
        Checks.due("net again", x.net(0, 1), 0);
        Checks.due("net last cell", x.net(63, 1), 1);
        Checks.due("nets", x.count(3), 2);
        Checks.due("net away", x.net(0, 0), 1);
        Checks.due("net away again", x.net(0, 0), 0);
        Checks.due("net away where none was", x.net(32, 0), 0);
        Checks.due("nets left", x.count(3), 1);
        Checks.due("cell with a net", x.cell(63, 0), 1);
        Checks.due("cell with none", x.cell(31, 0), 0);
        int[][] odd = {{-1, 1}, {64, 1}, {5, 2}, {5, -1}, {Integer.MIN_VALUE, 0}, {Integer.MAX_VALUE, 1}};
        for (int[] o : odd) {
            Checks.due("net beyond", x.net(o[0], o[1]), Checks.BEYOND);
        }
        Checks.due("nets unchanged", x.count(3), 1);
        Checks.due("each told once", x.status(0), odd.length);
    }

    private static void thickets() {
        WildBells x = new WildBells();
        Checks.due("thick at first", x.thick(9, 4), 0);
        Checks.due("thick then", x.thick(9, 9), 4);
        Checks.due("thick 9", x.thick(9, 0), 9);
        Checks.due("thick 0", x.cell(9, 1), 0);
        Checks.due("thick 10", x.thick(9, 10), Checks.BEYOND);
        Checks.due("thick -1", x.thick(9, -1), Checks.BEYOND);
        Checks.due("thick beyond", x.thick(64, 1), Checks.BEYOND);
        Checks.due("thick below", x.thick(-1, 1), Checks.BEYOND);
        Checks.due("thick of all alike", x.thick(63, 3), 0);
        Checks.due("thick kept", x.cell(63, 1), 3);
    }

    private static void cells() {
        WildBells x = Checks.woods("bell at 9 weight 20; bell at 9 weight 30; herd at 63 weight 99");
        Checks.due("heard: the loudest", x.cell(9, 2), 99 - 42 + 3 * 2);
        x.change(2, 4, 1);
        Checks.due("heard without a caught one", x.cell(9, 2), 30);
        Checks.due("heard farther", x.cell(0, 2), 24);
        Checks.due("heard too far", x.cell(63, 2), 0);
        Checks.due("bells at", x.cell(9, 3), 2);
        Checks.due("caught ones, too", x.cell(63, 3), 1);
        Checks.due("none there", x.cell(10, 3), 0);
        Checks.due("cell what 4", x.cell(10, 4), Checks.BEYOND);
        Checks.due("cell what -1", x.cell(10, -1), Checks.BEYOND);
        Checks.due("cell 64", x.cell(64, 0), Checks.BEYOND);
        Checks.due("cell -1", x.cell(-1, 0), Checks.BEYOND);
    }

    private static void hunters() {
        WildBells x = new WildBells();
        Checks.due("hunter comes", x.hunter(3, 63), -1);
        Checks.due("hunter moves", x.hunter(3, 0), 63);
        Checks.due("hunter goes", x.hunter(3, -1), 0);
        Checks.due("hunter nowhere", x.hunter(3, -1), -1);
        Checks.due("hunter 4", x.hunter(4, 0), Checks.BEYOND);
        Checks.due("hunter -1", x.hunter(-1, 0), Checks.BEYOND);
        Checks.due("hunter to 64", x.hunter(0, 64), Checks.BEYOND);
        Checks.due("hunter to -2", x.hunter(0, -2), Checks.BEYOND);
        Checks.due("hunter 0 still nowhere", x.hunter(0, 5), -1);
    }

    private static void fears() {
        WildBells x = new WildBells();
        Checks.due("fear at first", x.fear(9), 3);
        Checks.due("fear 9", x.fear(0), 9);
        Checks.due("fear 10", x.fear(10), Checks.BEYOND);
        Checks.due("fear -1", x.fear(-1), Checks.BEYOND);
        Checks.due("fear unchanged", x.now(3), 0);
    }

    private static void bells() {
        WildBells x = new WildBells();
        Checks.due("kind 7", x.bell(7, 0), Checks.BEYOND);
        Checks.due("kind -1", x.bell(-1, 0), Checks.BEYOND);
        Checks.due("at 64", x.bell(0, 64), Checks.BEYOND);
        Checks.due("at -1", x.bell(0, -1), Checks.BEYOND);
        for (int b = 0; b < 8; b++) {
            Checks.due("bell " + b, x.bell(b % 7, b * 9), b);
        }
        Checks.due("a 9th", x.bell(0, 0), Checks.FULL);
        Checks.due("a 9th beyond", x.bell(0, 64), Checks.BEYOND);
        Checks.due("bells", x.count(1), 8);
        for (int b = 0; b < 8; b++) {
            int[] first = {b % 7, b * 9, 0, 10, 0};
            for (int what = 0; what < 5; what++) {
                Checks.due("of new bell", x.of(b, what), first[what]);
            }
        }
    }

    private static void traits() {
        WildBells x = Checks.woods("tenor at 12 note 7 weight 31");
        int[] told = {3, 12, 7, 31, 0, 4, 30 + 9 + 6};
        for (int what = 0; what < told.length; what++) {
            Checks.due("of " + what, x.of(0, what), told[what]);
        }
        Checks.due("of what 7", x.of(0, 7), Checks.BEYOND);
        Checks.due("of what -1", x.of(0, -1), Checks.BEYOND);
        Checks.due("of bell 1", x.of(1, 0), Checks.BEYOND);
        Checks.due("of bell -1", x.of(-1, 0), Checks.BEYOND);
        x.change(0, 4, 1);
        Checks.due("the next cell of a caught one", x.of(0, 5), 4);
    }

    private static void changed() {
        WildBells x = Checks.woods("bell; bell at 5");
        int[][] least = {{0, 0}, {1, 0}, {2, 0}, {3, 1}, {4, 0}};
        int[][] most = {{0, 6}, {1, 63}, {2, 11}, {3, 99}, {4, 1}};
        int[] first = {0, 5, 0, 10, 0};
        for (int what = 0; what < 5; what++) {
            Checks.due("change to most", x.change(1, what, most[what][1]), first[what]);
            Checks.due("changed to most", x.of(1, what), most[what][1]);
            Checks.due("change too much", x.change(1, what, most[what][1] + 1), Checks.BEYOND);
            Checks.due("change to least", x.change(1, what, least[what][1]), most[what][1]);
            Checks.due("change too little", x.change(1, what, least[what][1] - 1), Checks.BEYOND);
            Checks.due("changed to least", x.of(1, what), least[what][1]);
            Checks.due("the other is as it was", x.of(0, what), what == 3 ? 10 : 0);
        }
        Checks.due("change what 5", x.change(1, 5, 1), Checks.BEYOND);
        Checks.due("change what -1", x.change(1, -1, 1), Checks.BEYOND);
        Checks.due("change bell 2", x.change(2, 0, 0), Checks.BEYOND);
        Checks.due("change bell -1", x.change(-1, 0, 0), Checks.BEYOND);
    }

    private static void plainWorth() {
        WildBells x = Checks.woods("bell at 27");
        Checks.due("no hunters", x.worth(0, 0), 39);
        x.thick(0, 9);
        Checks.due("thick", x.worth(0, 0), 30);
        x.fear(5);
        Checks.due("more fear", x.worth(0, 0), 50);
        x.hunter(2, 27);
        Checks.due("at the hunter", x.worth(0, 27), 9);
        Checks.due("beside the hunter", x.worth(0, 35), 19);
        Checks.due("apart is rows and columns", x.worth(0, 45), 49);
        Checks.due("fear at most", x.worth(0, 63), 59);
        x.hunter(0, 62);
        Checks.due("the nearest hunter", x.worth(0, 63), 19);
        x.hunter(0, 0);
        Checks.due("a hunter at cell 0", x.worth(0, 1), 19);
        x.thick(0, 0);
        x.hunter(0, -1);
        x.hunter(2, -1);
        Checks.due("hunters gone", x.worth(0, 27), 59);
        Checks.due("worth of bell 1", x.worth(1, 0), Checks.BEYOND);
        Checks.due("worth of bell -1", x.worth(-1, 0), Checks.BEYOND);
        Checks.due("worth of cell 64", x.worth(0, 64), Checks.BEYOND);
        Checks.due("worth of cell -1", x.worth(0, -1), Checks.BEYOND);
    }

    private static void herdWorth() {
        WildBells x = Checks.woods("herd; bell at 1; lone at 2; thick 5 4");
        Checks.due("a herd alone", x.worth(0, 0), 39);
        x.bell(1, 63);
        Checks.due("a herd far off", x.worth(0, 0), 39 + 6);
        x.bell(6, 7);
        Checks.due("young are under herd", x.worth(0, 0), 39 + 13);
        x.change(4, 4, 1);
        Checks.due("a caught one is none", x.worth(0, 0), 39 + 6);
        Checks.due("young", x.worth(4, 5), 30 + 5 + 15 + 8);
        Checks.due("a herd in thick", x.worth(0, 5), 30 + 5 + 20 - 9);
        x.change(3, 4, 1);
        Checks.due("all others caught", x.worth(0, 0), 39);
    }

    private static void loneWorth() {
        WildBells x = Checks.woods("lone; thick 9 1");
        Checks.due("a lone one without others", x.worth(0, 0), 39);
        x.bell(5, 63);
        Checks.due("others of any kind", x.worth(0, 0), 39 + 14);
        x.bell(1, 56);
        Checks.due("the nearest other", x.worth(0, 0), 39 + 7);
        x.change(2, 4, 1);
        Checks.due("not a caught one", x.worth(0, 0), 39 + 14);
        x.change(0, 0, 3);
        Checks.due("a tenor on the ridge", x.worth(0, 0), 39 + 14 + 7);
        Checks.due("a tenor below", x.worth(0, 9), 38 + 12 + 6);
        Checks.due("a tenor at the bottom", x.worth(0, 56), 39 + 7);
        x.change(0, 0, 4);
        Checks.due("an eldest", x.worth(0, 9), 2 * (38 + 12 + 6));
        x.change(1, 4, 1);
        Checks.due("an eldest without others", x.worth(0, 9), 2 * (38 + 6));
    }

    private static void tameWorth() {
        WildBells x = Checks.woods("tame at 63; bell at 0");
        Checks.due("tame far off", x.worth(0, 63), 39 - 28);
        Checks.due("tame at 0", x.worth(0, 0), 39);
        x.fear(0);
        x.thick(63, 9);
        Checks.due("worth may be below 0", x.worth(0, 63), -28);
    }

    private static void nextCells() {
        WildBells x = Checks.woods("bell at 27");
        Checks.due("of several its own", x.of(0, 5), 27);
        x.thick(27, 1);
        Checks.due("then up", x.of(0, 5), 19);
        x.thick(19, 1);
        Checks.due("then right: of several its own", x.of(0, 5), 28);
        x.thick(28, 1);
        Checks.due("then down", x.of(0, 5), 35);
        x.thick(35, 1);
        Checks.due("then left", x.of(0, 5), 26);
        x.thick(26, 1);
        Checks.due("all alike: its own", x.of(0, 5), 27);
        x.thick(26, 0);
        x.thick(28, 0);
        Checks.due("right before left", x.of(0, 5), 28);
        int[] corners = {0, 7, 56, 63};
        int[] first = {1, 15, 48, 55};
        for (int i = 0; i < 4; i++) {
            x.change(0, 1, corners[i]);
            x.thick(corners[i], 1);
            Checks.due("of a corner", x.of(0, 5), first[i]);
        }
        x = Checks.woods("tame at 8; tame at 1");
        Checks.due("up to cell 0", x.of(0, 5), 0);
        Checks.due("left to cell 0", x.of(1, 5), 0);
        Checks.due("no cell left of the first column", Checks.woods("bell at 16; hunter 0 at 16; fear 9").of(0, 5), 8);
        Checks.due("no cell right of the last", Checks.woods("bell at 23; hunter 0 at 23; fear 9").of(0, 5), 15);
        x = Checks.woods("bell at 63; thick 63 1; thick 55 9; thick 62 9");
        Checks.due("no cell behind the edge", x.of(0, 5), 63);
    }
}
