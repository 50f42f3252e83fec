/** Edges that the document names, sentence by sentence: spots, sheets, images, counts, status; promises 38 to 49. */
public final class EdgesSheetsTest {
    private static final int B = Checks.BEYOND;

    public static void main(String[] args) {
        spotsAtFirst();
        holdsNothing();
        holdsBellsThatAre();
        asOfItself();
        asMissing();
        missingAtFirst();
        sheetMostNumbers();
        allZero();
        sheetMissing();
        sizeWithoutBits();
        withTheirSign();
        writeNumbers();
        asTheyAllWere();
        hasNotSoMany();
        fromItsBegin();
        loadEnds();
        loadNoBell();
        judgeNumbers();
        noneTwice();
        fromTheLeast();
        firstThatIsnt();
        judgeNone();
        allButTapeAndSheets();
        latestStays();
        undoTellsHour();
        undoNone();
        tearAnswers();
        counts();
        countSpots();
        statusOfEach();
        statusCountsItself();
        statusNotTakenBack();
        newObject();
        Checks.end();
    }

    private static void spotsAtFirst() {
        Checks.sentence("SPOTS 0 to 9 hold a BELL or nothing (at first)");
        WildBells x = Checks.woods("bell");
        for (int s = 0; s < 10; s++) {
            Checks.due("nothing in " + s, x.as(s, 0), Checks.MISSING);
            Checks.due("hold in " + s, x.hold(s, 0), 1);
            Checks.due("held in " + s, x.as(s, 0), 0);
            Checks.due("spots", x.count(7), s + 1);
        }
        Checks.due("spot 10", x.hold(10, 0), B);
        Checks.due("spot -1", x.hold(-1, 0), B);
    }

    private static void holdsNothing() {
        Checks.sentence("A SPOT holds a BELL, or nothing (-1): 1");
        WildBells x = Checks.woods("bell;bell");
        Checks.due("nothing", x.hold(9, -1), 1);
        Checks.due("a bell", x.hold(9, 1), 1);
        Checks.due("the same", x.hold(9, 1), 1);
        Checks.due("one in two spots", x.hold(0, 1), 1);
        Checks.due("spots", x.count(7), 2);
        Checks.due("nothing", x.hold(9, -1), 1);
        Checks.due("nothing", x.as(9, 0), Checks.MISSING);
        Checks.due("the other still", x.as(0, 0), 1);
        Checks.due("-2", x.hold(0, -2), B);
    }

    private static void holdsBellsThatAre() {
        Checks.sentence("hold: BEYOND");
        WildBells x = new WildBells();
        Checks.due("no bells", x.hold(0, 0), B);
        Checks.due("nothing, without bells", x.hold(0, -1), 1);
        for (int b = 0; b < 8; b++) {
            Checks.due("not yet", x.hold(0, b), B);
            x.bell(0, 0);
            Checks.due("bell " + b, x.hold(0, b), 1);
        }
        Checks.due("bell 8", x.hold(0, 8), B);
        Checks.due("as before", x.as(0, 0), 7);
        x.change(7, 4, 1);
        Checks.due("a caught one, too", x.as(0, 0), 7);
    }

    private static void asOfItself() {
        Checks.sentence("as: KIND: it isn't of that kind, nor of one under it");
        WildBells x = Checks.woods("young;eldest;tame");
        for (int b = 0; b < 3; b++) {
            x.hold(b, b);
        }
        int[][] due = {{1, 1, 0, 0, 0, 0, 1}, {1, 0, 1, 1, 1, 0, 0}, {1, 0, 0, 0, 0, 1, 0}};
        for (int b = 0; b < 3; b++) {
            for (int k = 0; k < 7; k++) {
                Checks.due("bell " + b + " as " + k, x.as(b, k), due[b][k] == 1 ? b : Checks.KIND);
            }
        }
        x.change(0, 0, 3);
        Checks.due("changed", x.as(0, 2), 0);
        Checks.due("changed", x.as(0, 1), Checks.KIND);
    }

    private static void asMissing() {
        Checks.sentence("as: MISSING: it holds nothing");
        WildBells x = Checks.woods("bell");
        for (int k = 0; k < 7; k++) {
            Checks.due("of any kind", x.as(3, k), Checks.MISSING);
        }
        Checks.due("no such kind", x.as(3, 7), B);
    }

    private static void missingAtFirst() {
        Checks.sentence("SHEETS 0 to 3: MISSING (at first)");
        WildBells x = new WildBells();
        for (int s = 0; s < 4; s++) {
            Checks.due("load", x.load(s), Checks.MISSING);
            Checks.due("sheet", x.sheet(s, 8, 2), 2);
            Checks.due("load", x.load(s), 0);
        }
        Checks.due("sheet 4", x.load(4), B);
        Checks.due("sheet -1", x.load(-1), B);
    }

    private static void sheetMostNumbers() {
        Checks.sentence("rows of at most 40 numbers of 8, 16 or 32 bits");
        WildBells x = new WildBells();
        for (int bits : new int[] {8, 16, 32}) {
            for (int n : new int[] {0, 1, 39, 40}) {
                Checks.due("sheet", x.sheet(2, bits, n), n);
                Checks.due("the last", x.write(2, n - 1, 1), n == 0 ? B : 1);
                Checks.due("behind the last", x.write(2, n, 1), B);
            }
        }
        Checks.due("41", x.sheet(2, 8, 41), B);
    }

    private static void allZero() {
        Checks.sentence("A sheet has n numbers, all 0");
        WildBells x = Checks.woods("bell note 5;bell note 5;bell note 5");
        Checks.sheet(x, 0, 8, 7, 7, 7);
        Checks.due("anew", x.sheet(0, 16, 3), 3);
        Checks.due("load", x.load(0), 3);
        for (int b = 0; b < 3; b++) {
            Checks.due("note " + b, x.of(b, 2), 0);
        }
        Checks.sheet(x, 0, 8, 7, 7, 7);
        Checks.due("smaller", x.sheet(0, 8, 1), 1);
        Checks.due("then greater", x.sheet(0, 8, 3), 3);
        Checks.due("load", x.load(0), 3);
        Checks.due("the last note", x.of(2, 2), 0);
    }

    private static void sheetMissing() {
        Checks.sentence("bits 0: it is MISSING: n (0 if it is MISSING)");
        WildBells x = new WildBells();
        for (int n : new int[] {0, 1, 40}) {
            x.sheet(1, 8, 5);
            Checks.due("missing", x.sheet(1, 0, n), 0);
            Checks.due("write", x.write(1, 0, 1), Checks.MISSING);
            Checks.due("missing again", x.sheet(1, 0, n), 0);
        }
    }

    private static void sizeWithoutBits() {
        Checks.sentence("SIZE: n is below 0 (also with bits 0). BEYOND: n is above 40 (also with bits 0)");
        WildBells x = new WildBells();
        for (int bits : new int[] {0, 8, 16, 32}) {
            x.sheet(1, 8, 5);
            Checks.due("-1", x.sheet(1, bits, -1), Checks.SIZE);
            Checks.due("41", x.sheet(1, bits, 41), B);
            Checks.due("as it was", x.write(1, 4, 1), 1);
            Checks.due("40", x.sheet(1, bits, 40), bits == 0 ? 0 : 40);
            Checks.due("0", x.sheet(1, bits, 0), 0);
        }
    }

    private static void withTheirSign() {
        Checks.sentence("(told with their sign: of 8 bits 255 is -1); its lowest bits");
        WildBells x = Checks.woods("bell;bell");
        int[][] cases = {{8, 256, 1}, {8, 255, 0}, {8, 128, 0}, {8, 267, 1}, {8, 268, 0}, {8, -256, 1}, {8, -245, 1}, {16, 256, 0}, {16, 65536, 1},
            {16, 65535, 0}, {16, 65547, 1}, {16, 32768, 0}, {32, 65536, 0}, {32, 11, 1}, {32, -1, 0}, {32, Integer.MIN_VALUE, 0},
            {8, Integer.MIN_VALUE, 1}, {16, Integer.MIN_VALUE, 1}, {8, Integer.MAX_VALUE, 0}};
        for (int[] c : cases) {
            x.sheet(0, c[0], 1);
            Checks.due("write", x.write(0, 0, c[1]), 1);
            Checks.due(c[1] + " in " + c[0] + " bits is a note", x.load(0), c[2]);
        }
        for (int bits : new int[] {8, 16, 32}) {
            // As an ear -1 is no cell, 255 would be none either; what is heard is never below 0.
            Checks.sheet(x, 0, bits, 0, 255);
            Checks.due("no bell is so loud", x.stands(0, 99), 0);
            Checks.sheet(x, 0, bits, 255, 0);
            Checks.due("no cell", x.stands(0, 99), Checks.STATE);
        }
    }

    private static void writeNumbers() {
        Checks.sentence("write: BEYOND: no such number");
        WildBells x = new WildBells();
        x.sheet(0, 8, 3);
        int[][] calls = {{-1, B}, {0, 1}, {2, 1}, {3, B}, {4, B}, {39, B}, {40, B}, {Integer.MAX_VALUE, B}, {Integer.MIN_VALUE, B}};
        for (int[] c : calls) {
            Checks.due("number " + c[0], x.write(0, c[0], 5), c[1]);
        }
        x.sheet(0, 8, 0);
        Checks.due("of none", x.write(0, 0, 5), B);
    }

    private static void notes(WildBells x, int s, int... due) {
        Checks.due("load", x.load(s), due.length);
        for (int b = 0; b < due.length; b++) {
            Checks.due("note " + b, x.of(b, 2), due[b]);
        }
    }

    private static WildBells eight() {
        return Checks.woods("bell;bell;bell;bell;bell;bell;bell;bell");
    }

    private static void asTheyAllWere() {
        Checks.sentence("n numbers of a sheet from one on come to another one from one on (as they all were): n");
        WildBells x = eight();
        Checks.sheet(x, 0, 8, 1, 2, 3, 4, 5);
        Checks.due("up", x.copy(0, 0, 0, 1, 4), 4);
        notes(x, 0, 1, 1, 2, 3, 4);
        Checks.sheet(x, 0, 8, 1, 2, 3, 4, 5);
        Checks.due("up by 2", x.copy(0, 0, 0, 2, 3), 3);
        notes(x, 0, 1, 2, 1, 2, 3);
        Checks.sheet(x, 0, 8, 1, 2, 3, 4, 5);
        Checks.due("down", x.copy(0, 1, 0, 0, 4), 4);
        notes(x, 0, 2, 3, 4, 5, 5);
        Checks.due("onto itself", x.copy(0, 0, 0, 0, 5), 5);
        notes(x, 0, 2, 3, 4, 5, 5);
        Checks.sheet(x, 3, 8, 9, 9, 9);
        Checks.due("to another one", x.copy(0, 2, 3, 1, 2), 2);
        notes(x, 3, 9, 4, 5);
        notes(x, 0, 2, 3, 4, 5, 5);
    }

    private static void hasNotSoMany() {
        Checks.sentence("copy: BEYOND: one has not so many, or from, to or n is below 0");
        WildBells x = eight();
        Checks.sheet(x, 0, 16, 1, 2, 3);
        Checks.sheet(x, 1, 16, 4, 5, 6, 7, 8);
        int[][] calls = {{0, 0, 3, 3}, {0, 2, 3, 3}, {0, 3, 3, B}, {1, 0, 3, B}, {0, 0, 4, B}, {3, 0, 1, B}, {2, 4, 1, 1}, {2, 5, 1, B}, {3, 5, 0, 0},
            {0, 0, 0, 0}, {4, 0, 0, B}, {0, 6, 0, B}, {-1, 0, 1, B}, {0, -1, 1, B}, {0, 0, -1, B}, {3, 5, -1, B}};
        for (int[] c : calls) {
            Checks.due("copy " + c[0] + " to " + c[1] + " of " + c[2], x.copy(0, c[0], 1, c[1], c[2]), c[3]);
        }
        notes(x, 1, 1, 2, 1, 2, 3);
        Checks.due("from a greater one", x.copy(1, 0, 0, 0, 4), B);
        Checks.due("from a greater one", x.copy(1, 2, 0, 0, 3), 3);
        Checks.due("of none", x.sheet(2, 16, 0), 0);
        Checks.due("none of none", x.copy(2, 0, 2, 0, 0), 0);
        Checks.due("one of none", x.copy(2, 0, 0, 0, 1), B);
        Checks.due("one to none", x.copy(0, 0, 2, 0, 1), B);
    }

    private static void fromItsBegin() {
        Checks.sentence("Numbers of a sheet, from its begin on, become NOTES of BELLS 0, 1, ..: how many came");
        WildBells x = eight();
        Checks.sheet(x, 0, 32, 0, 11, 5, 4, 3, 2, 1, 9);
        notes(x, 0, 0, 11, 5, 4, 3, 2, 1, 9);
        x.change(3, 4, 1);
        Checks.sheet(x, 0, 32, 7, 7, 7, 7);
        notes(x, 0, 7, 7, 7, 7);
        Checks.due("the rest stay", x.of(4, 2), 3);
        x.sheet(0, 32, 0);
        Checks.due("none", x.load(0), 0);
    }

    private static void loadEnds() {
        Checks.sentence("It ends at the first that isn't 0 to 11");
        for (int odd : new int[] {-1, 12, 127, -128}) {
            WildBells x = eight();
            Checks.sheet(x, 0, 8, 5, 6, odd, 7);
            Checks.due("two came", x.load(0), 2);
            Checks.due("the first", x.of(0, 2), 5);
            Checks.due("the second", x.of(1, 2), 6);
            Checks.due("not the third", x.of(2, 2), 0);
            Checks.due("nor any more", x.of(3, 2), 0);
        }
    }

    private static void loadNoBell() {
        Checks.sentence("It ends at the first for which there is no BELL");
        WildBells x = new WildBells();
        x.sheet(0, 8, 40);
        for (int b = 0; b < 8; b++) {
            Checks.due("came", x.load(0), b);
            x.bell(0, 0);
        }
        Checks.due("all", x.load(0), 8);
        Checks.due("no finding", x.status(-1), 0);
    }

    private static void judged(WildBells x, int due, int... numbers) {
        Checks.sheet(x, 0, 16, numbers);
        Checks.due("judge", x.judge(0), due);
    }

    private static WildBells rising() {
        return Checks.woods("bell note 1;bell note 2;bell note 4;bell note 7;bell note 9;bell note 2");
    }

    private static void judgeNumbers() {
        Checks.sentence("judge: numbers of a sheet are BELLS");
        WildBells x = rising();
        judged(x, 1, -1);
        judged(x, 1, 6);
        judged(x, 1, 8);
        judged(x, 0, 0);
        judged(x, 0, 5);
        judged(x, 2, 0, 6);
        judged(x, 3, 0, 1, 32767);
        judged(new WildBells(), 1, 0);
        x.change(0, 4, 1);
        judged(x, 0, 0, 1);
    }

    private static void noneTwice() {
        Checks.sentence("judge: none twice");
        WildBells x = rising();
        judged(x, 2, 0, 0);
        judged(x, 4, 0, 1, 2, 0);
        judged(x, 3, 0, 1, 1);
        judged(x, 3, 0, 1, 5);
    }

    private static void fromTheLeast() {
        Checks.sentence("judge: that are a RING, from the least NOTE on: 0 if so");
        WildBells x = rising();
        judged(x, 0, 0, 1, 2);
        judged(x, 0, 0, 5, 2);
        judged(x, 0, 3, 4);
        judged(x, 2, 2, 1);
        judged(x, 2, 4, 3);
    }

    private static void firstThatIsnt() {
        Checks.sentence("judge: else 1 and the place of the first that isn't so");
        WildBells x = rising();
        judged(x, 4, 0, 1, 2, 3);
        judged(x, 4, 0, 1, 2, 3, 9);
        judged(x, 2, 0, 2, 9);
        judged(x, 1, 9, 0, 0);
        x.sheet(0, 8, 40);
        Checks.due("40 times the first bell", x.judge(0), 2);
        x = eight();
        for (int b = 0; b < 8; b++) {
            x.change(b, 2, b);
        }
        judged(x, 0, 0, 1, 2, 3, 4, 5, 6, 7);
        judged(x, 9, 0, 1, 2, 3, 4, 5, 6, 7, 0);
    }

    private static void judgeNone() {
        Checks.sentence("judge: a sheet of no numbers has none that isn't so");
        WildBells x = eight();
        judged(x, 0);
    }

    private static WildBells rich() {
        WildBells x = Checks.woods("bell at 9 note 3 weight 20;herd at 5;net 63;thick 5 4;hunter 1 at 0;fear 4");
        x.hold(0, 1);
        x.hold(9, 0);
        x.seed(77);
        x.go(3);
        x.change(1, 4, 1);
        return x;
    }

    private static void allButTapeAndSheets() {
        Checks.sentence("All but THE TAPE and SHEETS is kept: 1");
        WildBells x = rich();
        Checks.due("image", x.image(), 1);
        Checks.text(x, "young at 62 note 1 weight 1;net 0;thick 9 9;hunter 3 at 3;hunter 1;fear 9");
        for (int what = 0; what < 4; what++) {
            x.change(0, what, 5);
        }
        x.change(1, 4, 0);
        x.hold(0, -1);
        x.hold(1, 2);
        x.thunder(2);
        x.net(63, 0);
        Checks.feed(x, "fear 2");
        Checks.sheet(x, 1, 8, 7, 8);
        Checks.due("undo", x.undo(), 3);
        WildBells y = rich();
        y.image();
        Checks.feed(y, "fear 2");
        Checks.sheet(y, 1, 8, 7, 8);
        Checks.holds("all is as it was, but the tape and the sheets", Probe.of(x).equals(Probe.of(y)));
    }

    private static void latestStays() {
        Checks.sentence("It becomes what was kept latest (which stays)");
        WildBells x = new WildBells();
        x.image();
        x.fear(1);
        x.image();
        for (int i = 4; i < 9; i++) {
            x.fear(i);
            x.bell(0, i);
            Checks.due("undo", x.undo(), 0);
            Checks.due("fear", x.now(3), 1);
            Checks.due("bells", x.count(1), 0);
        }
        x.fear(2);
        x.image();
        x.fear(3);
        x.undo();
        Checks.due("the latest", x.now(3), 2);
    }

    private static void undoTellsHour() {
        Checks.sentence("undo: HOUR");
        WildBells x = new WildBells();
        x.image();
        x.go(24);
        Checks.due("of the image", x.undo(), 0);
        x.go(7);
        x.image();
        x.go(1);
        Checks.due("of the image", x.undo(), 7);
        Checks.due("hour", x.count(0), 7);
    }

    private static void undoNone() {
        Checks.sentence("undo: NONE: nothing is kept");
        WildBells x = new WildBells();
        Checks.due("at first", x.undo(), Checks.NONE);
        x.image();
        Checks.due("kept", x.undo(), 0);
        x.tear();
        Checks.due("torn", x.undo(), Checks.NONE);
        x.image();
        Checks.due("kept again", x.undo(), 0);
    }

    private static void tearAnswers() {
        Checks.sentence("tear: Nothing is kept: 1 if something was, else 0");
        WildBells x = rich();
        Checks.due("nothing", x.tear(), 0);
        x.image();
        x.image();
        Checks.due("something", x.tear(), 1);
        Checks.due("no more", x.tear(), 0);
        Checks.due("the woods stay", x.count(1), 2);
    }

    private static void counts() {
        Checks.sentence("count: 0 HOUR, 1 BELLS, 2 CAUGHT ones, 3 NETS, 4 WEIGHT of all together, 5 bytes of THE TAPE, 6 z");
        WildBells x = new WildBells();
        for (int b = 0; b < 8; b++) {
            x.bell(0, 0);
            x.change(b, 3, 99);
            x.change(b, 4, 1);
        }
        for (int c = 0; c < 64; c++) {
            x.net(c, 1);
        }
        for (int i = 0; i < 30; i++) {
            x.feed(0, 4);
        }
        int[] due = {0, 8, 8, 64, 792, 120, 1, 0};
        for (int what = 0; what < 8; what++) {
            Checks.due("count " + what, x.count(what), due[what]);
        }
        Checks.due("8", x.count(8), B);
        Checks.due("-1", x.count(-1), B);
    }

    private static void countSpots() {
        Checks.sentence("count: 7 SPOTS that hold something");
        WildBells x = Checks.woods("bell");
        for (int s = 0; s < 10; s++) {
            x.hold(s, 0);
        }
        Checks.due("all", x.count(7), 10);
        x.hold(0, -1);
        x.hold(9, -1);
        Checks.due("two less", x.count(7), 8);
    }

    private static void statusOfEach() {
        Checks.sentence("status: which -1: all, 0 to 6: BEYOND to SIZE");
        WildBells x = new WildBells();
        for (int b = 0; b < 8; b++) {
            x.bell(0, 0);
        }
        x.hold(0, 0);
        x.sheet(1, 8, 1);
        Checks.sheet(x, 2, 8, 64, 0);
        for (int i = 1; i < 6; i++) {
            x.fear(10);
            x.bell(0, 0);
            x.as(0, 5);
            x.undo();
            x.stands(2, 10);
            x.write(0, 0, 0);
            x.sheet(1, 8, -1);
            for (int which = 0; which < 7; which++) {
                Checks.due("status " + which, x.status(which), i);
            }
            Checks.due("all", x.status(-1), 7 * i);
        }
    }

    private static void statusCountsItself() {
        Checks.sentence("status: BEYOND (counted from then on): another one");
        WildBells x = new WildBells();
        int many = 0;
        for (int which : new int[] {-2, 7, 8, Integer.MIN_VALUE, Integer.MAX_VALUE}) {
            Checks.due("another one", x.status(which), B);
            many++;
            Checks.due("beyond", x.status(0), many);
            Checks.due("all", x.status(-1), many);
        }
        Checks.due("the last of them", x.status(6), 0);
        Checks.due("nothing is counted by asking", x.status(-1), many);
    }

    private static void statusNotTakenBack() {
        Checks.sentence("status: ever (undo() takes none back)");
        WildBells x = new WildBells();
        x.fear(10);
        x.image();
        x.fear(10);
        x.load(0);
        x.undo();
        Checks.due("beyond", x.status(0), 2);
        Checks.due("missing", x.status(5), 1);
        x.tear();
        x.undo();
        Checks.due("all", x.status(-1), 4);
        Checks.text(x, "fear 10");
        Checks.due("a FAULT is no finding", x.status(-1), 4);
    }

    private static void newObject() {
        Checks.sentence("All as at first; no BELLS; THE TAPE is empty, no image is kept");
        WildBells used = rich();
        used.image();
        used.fear(10);
        Checks.sheet(used, 0, 8, 7);
        Checks.feed(used, "fear");
        WildBells x = new WildBells();
        int[] due = {0, 0, 0, 0, 0, 0, 1, 0};
        for (int what = 0; what < 8; what++) {
            Checks.due("count " + what, x.count(what), due[what]);
        }
        for (int s = 0; s < 4; s++) {
            Checks.due("sheet " + s, x.judge(s), Checks.MISSING);
        }
        Checks.due("no image", x.tear(), 0);
        Checks.due("the empty tape", x.text(), -1);
        Checks.due("status", x.status(-1), 4);
    }
}
