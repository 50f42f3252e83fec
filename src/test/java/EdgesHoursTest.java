/** Edges that the document names, sentence by sentence: hours, sounds' LOUD, what will be; promises 11 to 21. */
public final class EdgesHoursTest {
    public static void main(String[] args) {
        byNumbers();
        notCaughtOnes();
        caughtAtItsNextCell();
        netStays();
        hourIsOneMore();
        lastHour();
        louds();
        heard();
        goLeastAndMost();
        goAnswers();
        nowTells();
        aheadNow();
        aheadSixty();
        whenNow();
        whenSixty();
        stillNow();
        stillSixty();
        stillThoughCaught();
        caughtNow();
        caughtSixty();
        netForCaughtOne();
        netForFewest();
        netForNone();
        netForTwenty();
        bestNow();
        bestHours();
        bestNone();
        driveNow();
        driveTwenty();
        driveMoves();
        kindForSixty();
        kindForCaughtOne();
        nothingChanges();
        Checks.end();
    }

    private static void byNumbers() {
        Checks.sentence("AN HOUR goes by: BELLS by numbers: it is AT its NEXT CELL");
        WildBells x = Checks.woods("herd at 0; herd at 2");
        x.go(1);
        Checks.due("the first", x.of(0, 1), 1);
        Checks.due("the second saw it there", x.of(1, 1), 1);
        x = Checks.woods("herd at 2; herd at 3; herd at 0");
        x.go(1);
        Checks.due("the first", x.of(0, 1), 3);
        Checks.due("the second stays with it", x.of(1, 1), 3);
        Checks.due("the third", x.of(2, 1), 1);
        x.go(2);
        Checks.due("the third", x.of(2, 1), 3);
    }

    private static void notCaughtOnes() {
        Checks.sentence("BELLS by numbers that aren't CAUGHT");
        WildBells x = Checks.woods("tame at 63; tame at 63; net 0");
        x.change(0, 4, 1);
        Checks.due("14 hours", x.go(14), 2);
        Checks.due("a caught one stays", x.of(0, 1), 63);
        Checks.due("a free one goes", x.of(1, 1), 0);
        x.change(1, 4, 0);
        x.net(0, 0);
        x.change(1, 1, 1);
        Checks.due("one let go", x.go(1), 1);
        Checks.due("goes on", x.of(1, 1), 0);
    }

    private static void caughtAtItsNextCell() {
        Checks.sentence("if that has a NET, it is CAUGHT");
        WildBells x = Checks.woods("bell at 63; bell at 5; tame at 1; tame at 2; net 63; net 0; net 1");
        Checks.due("the first hour", x.go(1), 3);
        Checks.due("where they stay, where they come, not where they were", x.now(1), 1 + 4 + 8);
        Checks.due("there", x.of(2, 1), 0);
        Checks.due("not the one without a net", x.of(1, 4), 0);
    }

    private static void netStays() {
        Checks.sentence("(the NET stays)");
        WildBells x = Checks.woods("bell at 63; bell at 63; bell at 63; net 63");
        Checks.due("all in one hour", x.go(1), 3);
        Checks.due("net", x.cell(63, 0), 1);
        x.bell(0, 63);
        Checks.due("one more", x.go(1), 4);
        Checks.due("nets", x.count(3), 1);
    }

    private static void hourIsOneMore() {
        Checks.sentence("HOUR is one more");
        WildBells x = new WildBells();
        for (int h = 1; h <= 60; h++) {
            Checks.due("go", x.go(1), 0);
            Checks.due("hour", x.now(0), h);
        }
        Checks.due("go 24", x.go(24), 0);
        Checks.due("hour", x.count(0), 84);
        x.bell(0, 0);
        x.thunder(20);
        Checks.due("by thunder, too", x.count(0), 104);
    }

    /** More calls than an object is promised for. */
    private static void lastHour() {
        Checks.sentence("STATE: HOUR would be above 99999");
        WildBells x = Checks.woods("tame at 63; net 0");
        x.change(0, 4, 1);
        for (int h = 0; h < 4165; h++) {
            x.go(24);
        }
        Checks.due("hour", x.now(0), 99960);
        x.go(15);
        x.image();
        Checks.due("just the last", x.go(24), 1);
        Checks.due("hour", x.now(0), 99999);
        Checks.due("one more", x.go(1), Checks.STATE);
        x.change(0, 4, 0);
        Checks.due("what will be goes on", x.when(0), 14);
        Checks.due("what will be goes on", x.ahead(0, 60), 0);
        x.undo();
        Checks.due("one before", x.go(23), 1);
        Checks.due("two more", x.go(2), Checks.STATE);
        Checks.due("the last one", x.go(1), 1);
        x.undo();
        Checks.due("thunder", x.thunder(5), 1);
        Checks.due("thunder too far", x.thunder(20), Checks.STATE);
        Checks.due("thunder to the last", x.thunder(19), 1);
        Checks.due("hour", x.count(0), 99999);
    }

    private static void louds() {
        Checks.sentence("LOUD of a BELL at a CELL: WEIGHT less 3 times how far APART they are (0 at least)");
        WildBells x = Checks.woods("bell");
        for (int w = 1; w < 100; w++) {
            x.change(0, 3, w);
            Checks.due("weight " + w + " at its own", x.loud(0, 0), w);
            Checks.due("weight " + w + " beside", x.loud(0, 8), Math.max(0, w - 3));
            Checks.due("weight " + w + " far off", x.loud(0, 63), Math.max(0, w - 42));
        }
        x.change(0, 4, 1);
        Checks.due("of a caught one", x.loud(0, 8), 96);
    }

    private static void heard() {
        Checks.sentence("HEARD at a CELL: of all that aren't CAUGHT the greatest LOUD (0 without)");
        WildBells x = new WildBells();
        Checks.due("no bells", x.cell(0, 2), 0);
        x.bell(0, 0);
        Checks.due("one", x.cell(0, 2), 10);
        Checks.due("3 apart", x.cell(3, 2), 1);
        Checks.due("4 apart", x.cell(4, 2), 0);
        x.bell(0, 7);
        x.change(1, 3, 31);
        Checks.due("the greatest", x.cell(0, 2), 10);
        x.change(1, 3, 32);
        Checks.due("the greatest", x.cell(0, 2), 11);
        x.change(1, 4, 1);
        Checks.due("not of a caught one", x.cell(0, 2), 10);
        x.change(0, 4, 1);
        Checks.due("all are caught", x.cell(0, 2), 0);
    }

    private static void goLeastAndMost() {
        Checks.sentence("n HOURS (1 to 24)");
        WildBells x = new WildBells();
        int hour = 0;
        for (int n = 1; n <= 24; n++) {
            Checks.due("go " + n, x.go(n), 0);
            hour += n;
            Checks.due("hour", x.now(0), hour);
        }
        Checks.due("go 0", x.go(0), Checks.BEYOND);
        Checks.due("go 25", x.go(25), Checks.BEYOND);
        x = Checks.procession(0);
        Checks.due("before", x.go(20), 0);
        Checks.due("just in the last hour", x.go(10), 2);
        Checks.due("none in these hours", x.go(9), 2);
        Checks.due("the third", x.go(24), 5);
    }

    private static void goAnswers() {
        Checks.sentence("n HOURS: how many BELLS are CAUGHT");
        WildBells x = Checks.woods("bell;bell;bell;bell;bell;bell;bell;bell");
        Checks.due("none", x.go(1), 0);
        x.net(0, 1);
        Checks.due("all", x.go(1), 8);
        Checks.due("still all", x.go(1), 8);
    }

    private static void nowTells() {
        Checks.sentence("1 BELLS that are CAUGHT, as a set, 2 NETS, 3 FEAR, 4 WEIGHT of all that are CAUGHT");
        WildBells x = new WildBells();
        int set = 0;
        for (int b = 0; b < 8; b++) {
            x.bell(0, 0);
            x.change(b, 3, 99);
            Checks.due("weight of none more", x.now(4), 99 * Integer.bitCount(set));
            if (b % 3 != 1) {
                x.change(b, 4, 1);
                set |= 1 << b;
            }
            Checks.due("caught", x.now(1), set);
        }
        Checks.due("bells 0, 2, 3, 5, 6", x.now(1), 1 + 4 + 8 + 32 + 64);
        x.change(7, 4, 1);
        Checks.due("the last, too", x.now(1), 1 + 4 + 8 + 32 + 64 + 128);
        Checks.due("weight", x.now(4), 6 * 99);
        Checks.due("nets", x.now(2), 0);
        Checks.due("fear", x.now(3), 3);
    }

    private static void aheadNow() {
        Checks.sentence("Where a BELL is behind n (0 to 60) HOURS: 0");
        WildBells x = Checks.woods("tame at 63");
        Checks.due("behind 0", x.ahead(0, 0), 63);
        Checks.due("behind 1", x.ahead(0, 1), 55);
        Checks.due("behind 14", x.ahead(0, 14), 0);
        Checks.due("behind 13", x.ahead(0, 13), 1);
        Checks.due("behind 60", x.ahead(0, 60), 0);
    }

    private static void aheadSixty() {
        Checks.sentence("Where a BELL is behind n (0 to 60) HOURS: 60");
        WildBells x = Checks.procession(8);
        Checks.due("behind 59", x.ahead(6, 59), 11);
        Checks.due("behind 60", x.ahead(6, 60), 3);
        x.go(1);
        Checks.due("behind 60", x.ahead(6, 60), 2);
        x.go(1);
        Checks.due("caught, it stays", x.ahead(6, 60), 2);
        Checks.due("61", x.ahead(6, 61), Checks.BEYOND);
    }

    private static void whenNow() {
        Checks.sentence("Behind how many HOURS (0 to 60, the fewest) a BELL is CAUGHT: 0");
        WildBells x = Checks.woods("bell; net 0");
        Checks.due("in the first hour", x.when(0), 1);
        x.change(0, 4, 1);
        Checks.due("by now", x.when(0), 0);
        x.net(0, 0);
        Checks.due("by now, without a net", x.when(0), 0);
        x.change(0, 4, 0);
        Checks.due("never", x.when(0), Checks.NONE);
    }

    private static void whenSixty() {
        Checks.sentence("Behind how many HOURS (0 to 60, the fewest) a BELL is CAUGHT: 60; NONE");
        WildBells x = Checks.procession(8);
        Checks.due("behind 61", x.when(6), Checks.NONE);
        x.go(1);
        Checks.due("behind 60", x.when(6), 60);
        x.go(1);
        Checks.due("behind 59", x.when(6), 59);
        int[] others = {40, Checks.NONE, 49, 11, Checks.NONE, 30, 59, 20};
        for (int b = 0; b < 8; b++) {
            Checks.due("bell " + b, x.when(b), others[b]);
        }
    }

    private static void stillNow() {
        Checks.sentence("Behind how many HOURS (0 to 60, the fewest) one more moves no BELL: 0");
        Checks.due("no bells", new WildBells().still(), 0);
        Checks.due("all stay", Checks.woods("bell; bell at 63; herd at 30").still(), 0);
        Checks.due("all caught", Checks.procession(80).still(), 0);
        WildBells x = Checks.woods("tame at 1");
        Checks.due("one hour", x.still(), 1);
        x.change(0, 4, 1);
        Checks.due("caught", x.still(), 0);
    }

    private static void stillSixty() {
        Checks.sentence("Behind how many HOURS (0 to 60, the fewest) one more moves no BELL: 60; NONE");
        Checks.due("79 hours", Checks.procession(0).still(), Checks.NONE);
        WildBells x = Checks.procession(18);
        Checks.due("61 hours", x.still(), Checks.NONE);
        x.go(1);
        Checks.due("60 hours", x.still(), 60);
        x.go(1);
        Checks.due("59 hours", x.still(), 59);
    }

    private static void stillThoughCaught() {
        Checks.sentence("(and none is CAUGHT in it)");
        WildBells x = Checks.woods("bell at 9; net 9");
        Checks.due("caught where it stands", x.still(), 1);
        x.go(1);
        Checks.due("caught by now", x.still(), 0);
        x = Checks.woods("tame at 2; bell at 9; net 9");
        Checks.due("another goes on", x.still(), 2);
    }

    private static void caughtNow() {
        Checks.sentence("BELLS that are CAUGHT behind n (0 to 60) HOURS, as a set: 0");
        WildBells x = Checks.woods("bell; bell; bell at 9; net 9");
        x.change(1, 4, 1);
        Checks.due("by now", x.caught(0), 2);
        Checks.due("behind 1", x.caught(1), 6);
        Checks.due("none", new WildBells().caught(60), 0);
    }

    private static void caughtSixty() {
        Checks.sentence("BELLS that are CAUGHT behind n (0 to 60) HOURS, as a set: 60");
        WildBells x = Checks.procession(8);
        int allButSix = 1 + 4 + 8 + 32 + 128;
        Checks.due("behind 60", x.caught(60), allButSix);
        x.go(1);
        Checks.due("behind 59", x.caught(59), allButSix);
        Checks.due("behind 60", x.caught(60), allButSix + 64);
        Checks.due("behind 11", x.caught(11), 0);
        Checks.due("behind 12", x.caught(12), 8);
        Checks.due("behind 20", x.caught(20), 8);
        Checks.due("behind 21", x.caught(21), 8 + 128);
    }

    private static void netForCaughtOne() {
        Checks.sentence("netFor: the CELL with no NET");
        WildBells x = Checks.woods("tame at 63");
        x.change(0, 4, 1);
        for (int c = 0; c < 64; c++) {
            Checks.due("nets below " + c, x.netFor(0), c);
            x.net(c, 1);
        }
        Checks.due("none is without", x.netFor(0), Checks.NONE);
    }

    private static void netForFewest() {
        Checks.sentence("lets a BELL be CAUGHT behind the fewest HOURS");
        WildBells x = Checks.woods("tame at 63");
        Checks.due("where it comes first", x.netFor(0), 55);
        x.net(55, 1);
        Checks.due("caught as soon at any", x.netFor(0), 0);
        x.change(0, 1, 0);
        Checks.due("where it stays", x.netFor(0), 0);
        x.net(0, 1);
        Checks.due("the least with none", x.netFor(0), 1);
        x = Checks.woods("lone at 0; bell at 0; net 1");
        Checks.due("where it would be without", x.ahead(0, 1), 1);
        Checks.due("it is caught as soon by that one", x.netFor(0), 0);
        Checks.due("the other stays", x.netFor(1), 0);
    }

    private static void netForNone() {
        Checks.sentence("netFor: NONE: none does");
        // Each comes to where the one before it came: with a net there that one is caught, and it stays where it is.
        WildBells x = Checks.woods("herd at 0; herd at 2");
        Checks.due("the first", x.netFor(0), 1);
        Checks.due("the second", x.netFor(1), Checks.NONE);
        Checks.due("no net came", x.count(3), 0);
        x = Checks.woods("bell at 9");
        for (int c = 0; c < 64; c++) {
            x.net(c, 1);
        }
        Checks.due("all have nets", x.netFor(0), Checks.NONE);
        x.net(63, 0);
        Checks.due("one has none", x.netFor(0), 63);
    }

    private static void netForTwenty() {
        Checks.sentence("netFor: behind the fewest HOURS (20 at most)");
        // A net takes away the one that it would have followed there, and it goes elsewhere, for long.
        WildBells x = Checks.scene("3474163321671456056596701272529109513703779787766757687677003267",
            new int[] {0, 2, 6, 9, 14, 20, 22, 33, 42, 44, 56, 57, 58, 60, 61}, new int[] {1, 6, 1, 1, 5, 3, 1, 6},
            new int[] {31, 63, 2, 47, 51, 18, 23, 55}, 8, 47, 62);
        Checks.due("without one more", x.when(7), Checks.NONE);
        Checks.due("behind 20", x.netFor(7), 63);
        x.net(63, 1);
        Checks.due("so it is", x.when(7), 20);
        x = Checks.scene("7600917550300021762471131572261116763821907647310763067147893341",
            new int[] {2, 5, 9, 10, 16, 17, 18, 19, 27, 29, 32, 42, 43, 45, 48, 49, 54, 56}, new int[] {3, 1, 6, 1, 0, 6, 1, 6},
            new int[] {38, 28, 1, 40, 8, 39, 46, 57}, 5, 42, 48, 40);
        Checks.due("without one more", x.when(6), Checks.NONE);
        Checks.due("behind 21", x.netFor(6), Checks.NONE);
        x.net(38, 1);
        Checks.due("so it is", x.when(6), 21);
    }

    private static void bestNow() {
        Checks.sentence("best: behind n (0 to 20) HOURS: 0");
        WildBells x = Checks.woods("bell at 9; bell at 9");
        Checks.due("behind 0 all are alike", x.best(0), 0);
        Checks.due("behind 1", x.best(1), 9);
        x.net(0, 1);
        x.change(0, 4, 1);
        Checks.due("behind 0 all are alike", x.best(0), 1);
    }

    private static void bestHours() {
        Checks.sentence("The CELL with no NET at which a NET more lets most BELLS be CAUGHT behind n (0 to 20) HOURS");
        // It goes up by 55, 47, .., 7, then left by 6, 5, ..
        WildBells x = Checks.woods("tame at 63");
        int[] way = {0, 55, 47, 39, 31, 23, 15, 7, 6, 5, 4, 3, 2, 1, 0, 0, 0, 0, 0, 0, 0};
        for (int n = 1; n <= 20; n++) {
            int least = 55;
            for (int h = 1; h <= n; h++) {
                least = Math.min(least, way[h]);
            }
            Checks.due("behind " + n, x.best(n), least);
        }
        x = Checks.woods("tame at 63; tame at 56; bell at 20; bell at 20; bell at 20");
        x.change(4, 4, 1);
        Checks.due("two that stand", x.best(13), 20);
        Checks.due("two that come, as many", x.best(14), 0);
        x.change(4, 4, 0);
        Checks.due("three that stand", x.best(14), 20);
        x = Checks.woods("tame at 63; tame at 5; net 0");
        Checks.due("one is caught without", x.best(5), 23);
        Checks.due("the other, too", x.best(7), 7);
        Checks.due("both are caught without", x.best(14), 1);
    }

    private static void bestNone() {
        Checks.sentence("best: NONE: there is none");
        WildBells x = new WildBells();
        for (int c = 0; c < 63; c++) {
            x.net(c, 1);
        }
        Checks.due("the last one without", x.best(20), 63);
        x.net(63, 1);
        Checks.due("none without", x.best(20), Checks.NONE);
        Checks.due("none without", x.best(0), Checks.NONE);
    }

    private static void driveNow() {
        Checks.sentence("drive: behind the fewest HOURS (20 at most): 0");
        WildBells x = Checks.woods("bell at 9; hunter 2 at 9");
        x.change(0, 4, 1);
        Checks.due("caught by now", x.drive(2, 0), 0);
        Checks.due("where he was", x.hunter(2, -1), 9);
    }

    private static void driveTwenty() {
        Checks.sentence("drive: behind the fewest HOURS (20 at most): 20; NONE: at none");
        WildBells x = Checks.procession(0);
        // No bell fears, so that a hunter is as good anywhere.
        Checks.due("behind 21", x.drive(0, 3), Checks.NONE);
        x.go(1);
        Checks.due("behind 20", x.drive(0, 3), 0);
        Checks.due("any hunter", x.drive(3, 3), 0);
        x.go(8);
        Checks.due("behind 21", x.drive(0, 7), Checks.NONE);
        x.go(1);
        Checks.due("behind 20", x.drive(0, 7), 0);
        Checks.due("never", x.drive(0, 4), Checks.NONE);
    }

    private static void driveMoves() {
        Checks.sentence("The CELL at which a HUNTER lets a BELL be CAUGHT behind the fewest HOURS");
        WildBells x = Checks.woods("bell at 27; net 3; fear 9");
        // Straight below it he drives it up in three hours; farther off it goes as well.
        Checks.due("up", x.drive(1, 0), 24);
        x.hunter(1, x.drive(1, 0));
        Checks.due("so it is", x.when(0), 3);
        x.hunter(1, 27);
        Checks.due("from where he was he is gone", x.drive(1, 0), 24);
        Checks.due("nothing changes", x.hunter(1, -1), 27);
    }

    private static void kindForSixty() {
        Checks.sentence("goes free for most HOURS (till it is CAUGHT; 60, if it isn't by then)");
        WildBells x = Checks.scene("4325786166157627610677087395619885016430819901001702892180988768",
            new int[] {4, 11, 14, 19, 25, 35, 38, 39, 46, 47, 48, 53, 57}, new int[] {4, 3, 3, 2, 2, 4, 4, 2},
            new int[] {1, 3, 2, 3, 2, 3, 17, 8}, 9, -1, 8, 9, 3);
        freeHours(x, 17, 17, -1, -1, -1, -1, 5);
        Checks.due("as a lone one caught behind 61 hours, as a tenor never", x.kindFor(7), 2);
        x.go(1);
        freeHours(x, 16, 16, 60, -1, -1, -1, -1);
        Checks.due("as a lone one caught behind 60 hours, as a tenor never", x.kindFor(7), 2);
        x.go(1);
        freeHours(x, 16, 16, 59, -1, -1, -1, -1);
        Checks.due("as a lone one caught behind 59 hours, as a tenor never", x.kindFor(7), 3);
    }

    private static void freeHours(WildBells x, int... hours) {
        for (int k = 0; k < hours.length; k++) {
            int was = x.change(7, 0, k);
            Checks.due("as kind " + k, x.when(7), hours[k] < 0 ? Checks.NONE : hours[k]);
            x.change(7, 0, was);
        }
    }

    private static void kindForCaughtOne() {
        Checks.sentence("kindFor: (till it is CAUGHT)");
        WildBells x = Checks.woods("young at 27; net 27; thick 28 9");
        Checks.due("a tenor goes up", x.kindFor(0), 3);
        x.net(19, 1);
        Checks.due("the young hide", x.kindFor(0), 6);
        x.change(0, 4, 1);
        Checks.due("caught by now as any", x.kindFor(0), 0);
        Checks.due("its kind stays", x.of(0, 0), 6);
    }

    private static void nothingChanges() {
        Checks.sentence("what will be (nothing changes)");
        WildBells x = Checks.procession(1);
        x.image();
        x.ahead(6, 60);
        x.when(6);
        x.still();
        x.caught(60);
        x.netFor(6);
        x.best(20);
        x.drive(0, 3);
        x.kindFor(6);
        x.when(3);
        WildBells y = Checks.procession(1);
        y.image();
        Checks.holds("as another one", Probe.of(x).equals(Probe.of(y)));
        Checks.due("hour", x.now(0), 1);
    }
}
