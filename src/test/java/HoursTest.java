/** Promises 11 to 21: hours, and what will be. */
public final class HoursTest {
    public static void main(String[] args) {
        going();
        lastHour();
        inTheirOrder();
        nows();
        louds();
        aheads();
        whens();
        stills();
        caughts();
        netsFor();
        bests();
        drives();
        kindsFor();
        Checks.end();
    }

    private static WildBells fleeing() {
        return Checks.woods("bell at 27; hunter 0 at 27");
    }

    private static void allNets(WildBells x) {
        for (int c = 0; c < 64; c++) {
            x.net(c, 1);
        }
    }

    private static void going() {
        WildBells x = Checks.woods("bell at 9; bell at 20; bell at 20; net 9");
        Checks.due("go 0", x.go(0), Checks.BEYOND);
        Checks.due("go -1", x.go(-1), Checks.BEYOND);
        Checks.due("go 25", x.go(25), Checks.BEYOND);
        Checks.due("no hour went", x.count(0), 0);
        Checks.due("one that stays on a net is caught", x.go(1), 1);
        Checks.due("it is caught", x.of(0, 4), 1);
        Checks.due("the net stays", x.cell(9, 0), 1);
        x.net(20, 1);
        Checks.due("how many are caught", x.go(24), 3);
        Checks.due("hours", x.now(0), 25);
        x.change(1, 4, 0);
        x.net(20, 0);
        x.hunter(1, 20);
        Checks.due("a free one flees", x.go(1), 2);
        Checks.due("it fled up", x.of(1, 1), 12);
        Checks.due("a caught one stays", x.of(2, 1), 20);
        for (int h = 0; h < 3; h++) {
            x.go(24);
        }
        Checks.due("hours add", x.now(0), 98);
        Checks.due("it fled till it fears no more", x.of(1, 1), 5);
    }

    /** No run of 512 calls comes so far; a longer one shows what would be there. */
    private static void lastHour() {
        WildBells x = Checks.woods("bell");
        for (int i = 0; i < 4166; i++) {
            x.go(24);
        }
        Checks.due("hour", x.now(0), 99984);
        Checks.due("go too far", x.go(16), Checks.STATE);
        Checks.due("thunder too far", x.thunder(16), Checks.STATE);
        Checks.due("beyond first", x.go(25), Checks.BEYOND);
        Checks.due("no hour went", x.now(0), 99984);
        Checks.due("thunder to the last", x.thunder(15), 0);
        Checks.due("the last", x.now(0), 99999);
        Checks.due("go one more", x.go(1), Checks.STATE);
    }

    private static void inTheirOrder() {
        WildBells x = Checks.woods("herd at 0; herd at 1");
        x.go(1);
        Checks.due("the first moves", x.of(0, 1), 1);
        Checks.due("the next sees it there", x.of(1, 1), 1);
        x = Checks.woods("bell at 0; lone at 9; net 0");
        x.go(1);
        Checks.due("one caught in the hour is no other any more", x.of(1, 1), 9);
        x = Checks.woods("lone at 9; bell at 0; net 0");
        x.go(1);
        Checks.due("one caught later in the hour still is", x.of(0, 1), 10);
    }

    private static void nows() {
        WildBells x = Checks.woods("bell at 9 weight 7; bell; bell at 9 weight 90; net 9; net 63; fear 8");
        x.go(2);
        int[] told = {2, 5, 2, 8, 97};
        for (int what = 0; what < 5; what++) {
            Checks.due("now " + what, x.now(what), told[what]);
        }
        Checks.due("now 5", x.now(5), Checks.BEYOND);
        Checks.due("now -1", x.now(-1), Checks.BEYOND);
    }

    private static void louds() {
        WildBells x = Checks.woods("bell at 27; tenor at 0 weight 99");
        Checks.due("loud at its own", x.loud(0, 27), 10);
        Checks.due("loud beside", x.loud(0, 28), 7);
        Checks.due("loud 3 apart", x.loud(0, 44), 1);
        Checks.due("not below 0", x.loud(0, 45), 0);
        Checks.due("loud over all", x.loud(1, 63), 57);
        x.change(1, 4, 1);
        Checks.due("loud of a caught one", x.loud(1, 63), 57);
        Checks.due("loud of bell 2", x.loud(2, 0), Checks.BEYOND);
        Checks.due("loud of bell -1", x.loud(-1, 0), Checks.BEYOND);
        Checks.due("loud at 64", x.loud(0, 64), Checks.BEYOND);
        Checks.due("loud at -1", x.loud(0, -1), Checks.BEYOND);
    }

    private static void aheads() {
        WildBells x = fleeing();
        int[] path = {27, 19, 11, 3, 3};
        for (int n = 0; n < path.length; n++) {
            Checks.due("ahead " + n, x.ahead(0, n), path[n]);
        }
        Checks.due("ahead 60", x.ahead(0, 60), 3);
        Checks.due("ahead 61", x.ahead(0, 61), Checks.BEYOND);
        Checks.due("ahead -1", x.ahead(0, -1), Checks.BEYOND);
        Checks.due("ahead of bell 1", x.ahead(1, 1), Checks.BEYOND);
        Checks.due("nothing changes: place", x.of(0, 1), 27);
        Checks.due("nothing changes: hour", x.now(0), 0);
        x.net(11, 1);
        Checks.due("ahead, caught", x.ahead(0, 9), 11);
        Checks.due("nothing changes: caught", x.now(1), 0);
    }

    private static void whens() {
        WildBells x = fleeing();
        Checks.due("never", x.when(0), Checks.NONE);
        x.net(27, 1);
        Checks.due("it leaves that net", x.when(0), Checks.NONE);
        x.net(3, 1);
        Checks.due("behind 3", x.when(0), 3);
        x.net(11, 1);
        Checks.due("behind 2", x.when(0), 2);
        Checks.due("when bell 1", x.when(1), Checks.BEYOND);
        Checks.due("when bell -1", x.when(-1), Checks.BEYOND);
        x.change(0, 4, 1);
        Checks.due("caught by now", x.when(0), 0);
        Checks.due("no hour went", x.now(0), 0);
    }

    private static void stills() {
        Checks.due("without bells", new WildBells().still(), 0);
        WildBells x = fleeing();
        Checks.due("behind 3", x.still(), 3);
        x.net(11, 1);
        Checks.due("caught on its way", x.still(), 2);
        x.change(0, 4, 1);
        Checks.due("all caught", x.still(), 0);
        Checks.due("a bell that is caught where it stands", Checks.woods("bell at 5; net 5").still(), 1);
        Checks.due("herds come together", Checks.woods("herd at 0; herd at 1").still(), 1);
        Checks.due("no hour went", x.now(0), 0);
    }

    private static void caughts() {
        WildBells x = Checks.woods("bell at 27; bell at 63; bell at 62; hunter 0 at 27; net 11; net 62");
        x.change(1, 4, 1);
        int[] told = {2, 6, 7, 7};
        for (int n = 0; n < told.length; n++) {
            Checks.due("caught " + n, x.caught(n), told[n]);
        }
        Checks.due("caught 60", x.caught(60), 7);
        Checks.due("caught 61", x.caught(61), Checks.BEYOND);
        Checks.due("caught -1", x.caught(-1), Checks.BEYOND);
        Checks.due("nothing changes", x.now(1), 2);
    }

    private static void netsFor() {
        WildBells x = fleeing();
        Checks.due("where it comes first", x.netFor(0), 19);
        Checks.due("no net came", x.count(3), 0);
        x.net(11, 1);
        Checks.due("sooner than without", x.netFor(0), 19);
        x.net(19, 1);
        Checks.due("as soon anywhere", x.netFor(0), 0);
        x.net(0, 1);
        Checks.due("the least with no net", x.netFor(0), 1);
        x.net(19, 0);
        x.change(0, 4, 1);
        Checks.due("a caught one", x.netFor(0), 1);
        allNets(x);
        Checks.due("no cell is without", x.netFor(0), Checks.NONE);
        Checks.due("net for bell 1", x.netFor(1), Checks.BEYOND);
        Checks.due("net for bell -1", x.netFor(-1), Checks.BEYOND);
        Checks.due("one that stays", Checks.woods("bell at 50").netFor(0), 50);
    }

    private static void bests() {
        WildBells x = Checks.woods("herd at 0; herd at 2; bell at 63");
        Checks.due("best 0: all alike", x.best(0), 0);
        Checks.due("best 1: the least of several", x.best(1), 1);
        x.bell(0, 63);
        Checks.due("best 1: most", x.best(1), 63);
        x.net(63, 1);
        Checks.due("best with nets", x.best(1), 1);
        Checks.due("no net came", x.count(3), 1);
        Checks.due("best 21", x.best(21), Checks.BEYOND);
        Checks.due("best -1", x.best(-1), Checks.BEYOND);
        allNets(x);
        Checks.due("no cell is without", x.best(20), Checks.NONE);
        x.net(40, 0);
        Checks.due("the only one without", x.best(20), 40);
        Checks.due("best without bells", new WildBells().best(20), 0);
    }

    private static void drives() {
        WildBells x = Checks.woods("bell at 27; net 28");
        Checks.due("driven right", x.drive(0, 0), 11);
        Checks.due("the hunter stays away", x.hunter(0, -1), -1);
        x.net(28, 0);
        Checks.due("no net", x.drive(3, 0), Checks.NONE);
        x.net(27, 1);
        Checks.due("a hunter who leaves it where it is", x.drive(3, 0), 0);
        x.hunter(2, 27);
        Checks.due("another one drives it off for good", x.drive(3, 0), Checks.NONE);
        Checks.due("he may go himself", x.drive(2, 0), 0);
        x.change(0, 4, 1);
        Checks.due("a caught one", x.drive(3, 0), 0);
        Checks.due("hunter 4", x.drive(4, 0), Checks.BEYOND);
        Checks.due("hunter -1", x.drive(-1, 0), Checks.BEYOND);
        Checks.due("bell 1", x.drive(0, 1), Checks.BEYOND);
        Checks.due("bell -1", x.drive(0, -1), Checks.BEYOND);
    }

    private static void kindsFor() {
        WildBells x = Checks.woods("tame at 27");
        Checks.due("free as any", x.kindFor(0), 0);
        x.net(27, 1);
        Checks.due("a tenor goes up", x.kindFor(0), 3);
        x.net(19, 1);
        Checks.due("all are caught as soon", x.kindFor(0), 0);
        x.thick(28, 9);
        Checks.due("the young hide", x.kindFor(0), 6);
        Checks.due("the kind stays", x.of(0, 0), 5);
        x.change(0, 4, 1);
        Checks.due("a caught one", x.kindFor(0), 0);
        Checks.due("bell 1", x.kindFor(1), Checks.BEYOND);
        Checks.due("bell -1", x.kindFor(-1), Checks.BEYOND);
        x = Checks.woods("bell at 27; net 27; net 11");
        Checks.due("caught later is longer free", x.kindFor(0), 3);
        x.thick(19, 1);
        x.net(19, 1);
        Checks.due("the tame one goes home", x.kindFor(0), 5);
    }
}
