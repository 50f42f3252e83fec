/** Promises 45 to 49: images, counts, the status. */
public final class ImagesTest {
    public static void main(String[] args) {
        images();
        latest();
        tearing();
        counts();
        statuses();
        Checks.end();
    }

    private static void images() {
        WildBells x = Checks.woods("tenor at 9 note 7 weight 50; herd at 63; net 3; thick 5 5; hunter 1 at 30; fear 6");
        x.hold(2, 1);
        x.seed(77);
        x.go(2);
        x.change(1, 4, 1);
        Checks.due("image", x.image(), 1);
        int at = x.of(0, 1);
        int at1 = x.of(1, 1);
        Checks.feed(x, "net 8; bell");
        x.text();
        x.change(0, 0, 0);
        x.change(0, 1, 40);
        x.change(0, 2, 1);
        x.change(0, 3, 1);
        x.change(1, 4, 0);
        x.net(3, 0);
        x.thick(5, 0);
        x.hunter(1, 0);
        x.hunter(0, 0);
        x.fear(0);
        x.hold(2, 2);
        x.hold(3, 0);
        x.seed(5);
        x.go(24);
        Checks.feed(x, "fear 9");
        Checks.sheet(x, 0, 8, 3);
        Checks.due("undo tells the hour", x.undo(), 2);
        int[] told = {3, at, 7, 50, 0};
        for (int what = 0; what < 5; what++) {
            Checks.due("as kept " + what, x.of(0, what), told[what]);
        }
        Checks.due("the other one's cell", x.of(1, 1), at1);
        Checks.due("caught", x.now(1), 2);
        Checks.due("bells", x.count(1), 2);
        Checks.due("nets", x.cell(3, 0), 1);
        Checks.due("nets", x.count(3), 1);
        Checks.due("thick", x.cell(5, 1), 5);
        Checks.due("fear", x.now(3), 6);
        Checks.due("z", x.count(6), 77);
        Checks.due("spots", x.count(7), 1);
        Checks.due("spot", x.as(2, 0), 1);
        Checks.due("hour", x.now(0), 2);
        Checks.due("hunter", x.hunter(1, -1), 30);
        Checks.due("another hunter", x.hunter(0, -1), -1);
        Checks.due("the tape is as it was", x.count(5), 6);
        Checks.due("sheets are as they were", x.load(0), 1);
    }

    private static void latest() {
        WildBells x = new WildBells();
        Checks.due("nothing kept", x.undo(), Checks.NONE);
        x.image();
        x.fear(1);
        x.go(1);
        x.image();
        x.fear(2);
        x.go(1);
        Checks.due("the latest", x.undo(), 1);
        Checks.due("the latest", x.now(3), 1);
        x.fear(7);
        Checks.due("it stays", x.undo(), 1);
        Checks.due("it stays as it was", x.now(3), 1);
        x.bell(0, 5);
        x.hold(1, 0);
        x.ahead(0, 5);
        x.undo();
        Checks.due("no bell", x.count(1), 0);
        Checks.due("nothing held", x.as(1, 0), Checks.MISSING);
        Checks.due("a bell anew", x.bell(6, 9), 0);
        Checks.due("undo takes no findings back", x.status(-1), 2);
    }

    private static void tearing() {
        WildBells x = new WildBells();
        Checks.due("nothing to tear", x.tear(), 0);
        x.image();
        x.image();
        Checks.due("tear", x.tear(), 1);
        Checks.due("torn", x.tear(), 0);
        Checks.due("nothing kept", x.undo(), Checks.NONE);
    }

    private static void counts() {
        WildBells x = Checks.woods("bell at 5 weight 7; bell weight 80; net 5; net 6; net 7");
        x.go(3);
        x.hold(0, 0);
        x.hold(1, 0);
        x.hold(9, 1);
        x.feed(0, 4);
        x.seed(-9);
        int[] told = {3, 2, 1, 3, 87, 4, -9, 3};
        for (int what = 0; what < told.length; what++) {
            Checks.due("count " + what, x.count(what), told[what]);
        }
        Checks.due("count 8", x.count(8), Checks.BEYOND);
        Checks.due("count -1", x.count(-1), Checks.BEYOND);
    }

    private static void statuses() {
        WildBells x = new WildBells();
        x.net(64, 1);
        x.changes(99);
        for (int i = 0; i < 30; i++) {
            x.feed(0, 4);
        }
        x.feed(0, 1);
        x.sheet(0, 8, 1);
        x.sheet(1, 16, 1);
        x.copy(0, 0, 1, 0, 1);
        x.undo();
        x.undo();
        x.undo();
        x.thunder(1);
        x.load(3);
        x.load(2);
        x.sheet(0, 8, -1);
        int[] told = {2, 1, 1, 3, 1, 2, 1};
        for (int which = 0; which < 7; which++) {
            Checks.due("status " + which, x.status(which), told[which]);
        }
        Checks.due("status of all", x.status(-1), 11);
        Checks.due("status 7", x.status(7), Checks.BEYOND);
        Checks.due("counted from then on", x.status(0), 3);
        Checks.due("status -2", x.status(-2), Checks.BEYOND);
        Checks.due("counted from then on", x.status(-1), 13);
        x.image();
        x.fear(99);
        x.undo();
        Checks.due("undo takes none back", x.status(0), 5);
        x.text();
        Checks.due("a text's fault is none", x.status(-1), 14);
    }
}
