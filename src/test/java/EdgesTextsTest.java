/** Edges that the document names, sentence by sentence: draws, thunder, the tape, tokens, texts, faults; promises 33 to 37. */
public final class EdgesTextsTest {
    public static void main(String[] args) {
        drawsWrap();
        rests();
        drawnAllTheSame();
        aheadOfEach();
        thunderLeastAndMost();
        thunderNoBells();
        tapeFull();
        lowestBytes();
        highestFirst();
        wipeAnswers();
        wordsAsLongAsCanBe();
        numbersAsLongAsCanBe();
        atMost999();
        blanks();
        beginsNoToken();
        kindsOfItems();
        perhapsInOrder();
        withoutAtNoteWeight();
        leastAndMostInItems();
        hunterNowhere();
        notAsTold();
        endsTooEarly();
        firstTokenThatCantStand();
        ninthBell();
        nothingChanges();
        emptyThen();
        itemByItem();
        howManyItems();
        Checks.end();
    }

    private static void drawsWrap() {
        Checks.sentence("each makes it z * 1103515245 + 12345 (an int), and gives z >>> 8");
        int[] seeds = {1, 0, -1, Integer.MAX_VALUE, Integer.MIN_VALUE, 123456789};
        for (int seed : seeds) {
            for (int bells = 1; bells <= 8; bells++) {
                WildBells x = new WildBells();
                for (int b = 0; b < bells; b++) {
                    x.bell(0, 0);
                    x.change(b, 4, b % 2);
                }
                x.seed(seed);
                long z = (seed * 1103515245L + 12345L) & 0xffffffffL;
                int bell = (int) ((z >> 8) % bells);
                z = (z * 1103515245L + 12345L) & 0xffffffffL;
                int cell = (int) ((z >> 8) % 64);
                x.thunder(1);
                Checks.due("z", x.count(6), (int) z);
                for (int b = 0; b < bells; b++) {
                    Checks.due("seed " + seed + " bell " + b + " of " + bells, x.of(b, 1), b == bell && b % 2 == 0 ? cell : 0);
                }
            }
        }
    }

    private static void rests() {
        Checks.sentence("the BELL of the number that is the first one's rest by how many there are, the CELL of the second one's rest by 64");
        WildBells x = Checks.woods("bell");
        boolean[] come = new boolean[64];
        int cells = 0;
        for (int i = 0; i < 400; i++) {
            x.thunder(1);
            int at = x.of(0, 1);
            cells += come[at] ? 0 : 1;
            come[at] = true;
        }
        Checks.due("cells that came", cells, 64);
    }

    private static void drawnAllTheSame() {
        Checks.sentence("(not, if it is CAUGHT; drawn all the same)");
        WildBells x = Checks.woods("bell at 5");
        WildBells y = Checks.woods("bell at 5");
        x.change(0, 4, 1);
        for (int i = 0; i < 5; i++) {
            Checks.due("caught", x.thunder(2), 1);
            Checks.due("free", y.thunder(2), 0);
            Checks.due("z", x.count(6), y.count(6));
            Checks.due("it stays", x.of(0, 1), 5);
        }
    }

    private static void aheadOfEach() {
        Checks.sentence("ahead of each two draws");
        WildBells x = Checks.woods("tame at 63; herd at 20; lone at 40; net 0");
        WildBells y = Checks.woods("tame at 63; herd at 20; lone at 40; net 0");
        int many = 0;
        for (int i = 0; i < 7; i++) {
            many = y.thunder(1);
        }
        Checks.due("seven at once", x.thunder(7), many);
        Checks.due("z", x.count(6), y.count(6));
        for (int b = 0; b < 3; b++) {
            Checks.due("bell " + b, x.of(b, 1), y.of(b, 1));
        }
        // The first two draws from 1 on throw the only bell to 48.
        Checks.due("caught where it was thrown, in this hour", Checks.woods("bell; net 48").thunder(1), 1);
        Checks.due("not where it was", Checks.woods("bell; net 0").thunder(1), 0);
    }

    private static void thunderLeastAndMost() {
        Checks.sentence("thunder: n HOURS (1 to 20)");
        WildBells x = Checks.woods("bell");
        Checks.due("0", x.thunder(0), Checks.BEYOND);
        Checks.due("21", x.thunder(21), Checks.BEYOND);
        Checks.due("1", x.thunder(1), 0);
        Checks.due("20", x.thunder(20), 0);
        Checks.due("hours", x.now(0), 21);
    }

    private static void thunderNoBells() {
        Checks.sentence("thunder: STATE: there are no BELLS");
        WildBells x = new WildBells();
        Checks.due("no bells", x.thunder(20), Checks.STATE);
        Checks.due("no draw", x.count(6), 1);
        Checks.due("no hour", x.now(0), 0);
        x.bell(0, 0);
        x.change(0, 4, 1);
        Checks.due("all are caught", x.thunder(20), 1);
        Checks.due("hours", x.now(0), 20);
    }

    private static void tapeFull() {
        Checks.sentence("THE TAPE (bytes, at most 120); FULL");
        for (int n = 1; n <= 4; n++) {
            WildBells x = new WildBells();
            int size = 0;
            while (size + n <= 120) {
                size += n;
                Checks.due("feed", x.feed(0x20202020, n), size);
            }
            Checks.due("full", x.feed(0x20202020, n), Checks.FULL);
            Checks.due("as it was", x.count(5), size);
            for (int more = 1; more <= 120 - size; more++) {
                Checks.due("a smaller one", x.feed(32, 1), size + more);
            }
            Checks.due("120", x.count(5), 120);
            Checks.due("one more", x.feed(32, 1), Checks.FULL);
            Checks.due("no text", x.text(), -121);
            Checks.due("room again", x.feed(32, 4), 4);
        }
    }

    private static void lowestBytes() {
        Checks.sentence("the n lowest bytes of a number");
        for (int n = 1; n <= 4; n++) {
            WildBells x = new WildBells();
            Checks.feed(x, "fear");
            // "5" or "25", "425", "5425" in its lowest bytes.
            Checks.due("feed", x.feed(0x35343235, n), 4 + n);
            Checks.due("text", x.text(), n == 1 ? 1 : -5);
            Checks.due("fear", x.now(3), n == 1 ? 5 : 3);
        }
        WildBells x = new WildBells();
        Checks.feed(x, "fear");
        x.feed(0xffffff00 + '6', 1);
        Checks.due("below 0", x.text(), 1);
        Checks.due("fear", x.now(3), 6);
    }

    private static void highestFirst() {
        Checks.sentence("behind it, the highest of these first");
        WildBells x = new WildBells();
        x.feed(0x66656172, 4);
        x.feed(0x2030, 2);
        x.feed(0x303037, 3);
        Checks.due("fear 0007", x.text(), 1);
        Checks.due("fear", x.now(3), 7);
    }

    private static void wipeAnswers() {
        Checks.sentence("wipe: THE TAPE is empty: how many it had");
        WildBells x = new WildBells();
        Checks.due("nothing", x.wipe(), 0);
        for (int i = 0; i < 30; i++) {
            x.feed(-1, 4);
        }
        Checks.due("all", x.wipe(), 120);
        Checks.due("nothing", x.wipe(), 0);
        Checks.due("empty", x.text(), -1);
    }

    private static void reads(String text, int due) {
        WildBells x = new WildBells();
        Checks.due("'" + text + "'", Checks.text(x, text), due);
        Checks.due("the tape behind '" + text + "'", x.count(5), 0);
        Checks.due("no finding of '" + text + "'", x.status(-1), 0);
    }

    private static void fault(String text, int place) {
        reads(text, -1 - place);
    }

    private static void wordsAsLongAsCanBe() {
        Checks.sentence("TOKENS, each as long as can be: WORDS (letters a to z)");
        fault("bellbell", 0);
        fault("belln", 0);
        fault("bel", 0);
        fault("b", 0);
        fault("netz", 0);
        fault("zbell", 0);
        fault("abell", 0);
        fault("bell atnote 1", 5);
        fault("bell at 5 notes 3", 10);
        reads("net5", 1);
        reads("bell at5note5weight5", 1);
        // The bytes next to a and z are no letters.
        fault("bell{", 4);
        fault("bell`", 4);
        fault("{", 0);
        fault("`", 0);
        fault("bellA", 4);
        fault("bellZ", 4);
        fault("BELL", 0);
        fault("bell\u00e4", 4);
    }

    private static void numbersAsLongAsCanBe() {
        Checks.sentence("TOKENS, each as long as can be: NUMBERS (digits)");
        fault("thick 55", 8);
        fault("thick 555", 6);
        reads("thick 5 5", 1);
        reads("thick 05 05", 1);
        // The bytes next to 0 and 9 are no digits.
        fault("net 5/", 5);
        fault("net 5:", 5);
        fault("net /", 4);
        fault("net :", 4);
        fault("net 5a", 5);
        fault("net 5.5", 5);
        fault("net +5", 4);
        fault("net -5", 4);
    }

    private static void atMost999() {
        Checks.sentence("NUMBERS (digits, 999 at most)");
        fault("net 999", 4);
        fault("net 1000", 4);
        fault("net 1005", 4);
        fault("net 10000000005", 4);
        fault("net 2147483648", 4);
        fault("net 4294967301", 4);
        fault("net 18446744073709551621", 4);
        fault("bell weight 1010", 12);
        reads("net 0000000000000000000000000005", 1);
        reads("net 000", 1);
    }

    private static void blanks() {
        Checks.sentence("blanks may stand between");
        reads(" bell ", 1);
        reads("   bell   at   5   note   5   weight   5   ;   net   5   ", 2);
        reads("bell;net 5;fear 5", 3);
        fault("be ll", 0);
        fault("bell at 5 5", 10);
        fault("bell\tat 5", 4);
        fault("bell\nat 5", 4);
        fault("bell\u00a0at 5", 4);
        fault("bell\0at 5", 4);
    }

    private static void beginsNoToken() {
        Checks.sentence("FAULT: a byte that begins no TOKEN");
        for (int b = 0; b < 256; b++) {
            boolean begins = b == ' ' || b == ';' || b >= '0' && b <= '9' || b >= 'a' && b <= 'z';
            if (!begins) {
                fault((char) b + "bell", 0);
                fault("bell at " + (char) b, 8);
                fault("net 5" + (char) b, 5);
                fault("net 5;" + (char) b, 6);
            }
        }
    }

    private static void kindsOfItems() {
        Checks.sentence("ITEM: bell, herd, lone, tenor, eldest, tame or young; net; thick; hunter; fear");
        String[] words = {"bell", "herd", "lone", "tenor", "eldest", "tame", "young"};
        for (int k = 0; k < 7; k++) {
            WildBells x = new WildBells();
            Checks.due(words[k], Checks.text(x, words[k]), 1);
            Checks.due(words[k], x.of(0, 0), k);
        }
        for (String word : new String[] {"at", "note", "weight", "kind", "cell", "go", "x", "hunt", "thicks", "5", ";"}) {
            fault(word, 0);
            fault("fear 5;" + word, 7);
        }
    }

    private static void perhapsInOrder() {
        Checks.sentence("perhaps at and a NUMBER, perhaps note and a NUMBER, perhaps weight and a NUMBER");
        reads("bell at 5 note 5 weight 5", 1);
        reads("bell note 5 weight 5", 1);
        reads("bell at 5 weight 5", 1);
        reads("bell at 5 note 5", 1);
        reads("bell weight 5", 1);
        fault("bell note 5 at 5", 12);
        fault("bell weight 5 note 5", 14);
        fault("bell weight 5 at 5", 14);
        fault("bell at 5 at 5", 10);
        fault("bell note 5 note 5", 12);
        fault("bell weight 5 weight 5", 14);
        fault("bell 5", 5);
        fault("bell net 5", 5);
    }

    private static void withoutAtNoteWeight() {
        Checks.sentence("(a CELL; 0 without), perhaps note, perhaps weight: a new BELL");
        WildBells x = new WildBells();
        Checks.due("text", Checks.text(x, "young; bell at 63 note 11 weight 99; herd"), 3);
        int[][] due = {{6, 0, 0, 10, 0}, {0, 63, 11, 99, 0}, {1, 0, 0, 10, 0}};
        for (int b = 0; b < 3; b++) {
            for (int what = 0; what < 5; what++) {
                Checks.due("bell " + b + " " + what, x.of(b, what), due[b][what]);
            }
        }
    }

    private static void leastAndMostInItems() {
        Checks.sentence("a CELL; 0 to 11; 1 to 99; a CELL, 0 to 9; 0 to 3; a CELL; 0 to 9");
        WildBells x = new WildBells();
        Checks.due("least", Checks.text(x, "bell at 0 note 0 weight 1; net 0; thick 0 0; hunter 0 at 0; fear 0"), 5);
        Checks.due("at", x.of(0, 1), 0);
        Checks.due("note", x.of(0, 2), 0);
        Checks.due("weight", x.of(0, 3), 1);
        Checks.due("net", x.cell(0, 0), 1);
        Checks.due("thick", x.cell(0, 1), 0);
        Checks.due("fear", x.now(3), 0);
        Checks.due("hunter", x.hunter(0, -1), 0);
        Checks.due("most", Checks.text(x, "bell at 63 note 11 weight 99; net 63; thick 63 9; hunter 3 at 63; fear 9"), 5);
        Checks.due("at", x.of(1, 1), 63);
        Checks.due("note", x.of(1, 2), 11);
        Checks.due("weight", x.of(1, 3), 99);
        Checks.due("net", x.cell(63, 0), 1);
        Checks.due("thick", x.cell(63, 1), 9);
        Checks.due("fear", x.now(3), 9);
        Checks.due("hunter", x.hunter(3, -1), 63);
        Checks.due("thick to 0", Checks.text(x, "thick 63 0"), 1);
        Checks.due("thick", x.cell(63, 1), 0);
    }

    private static void hunterNowhere() {
        Checks.sentence("hunter, perhaps at and a NUMBER (a CELL; without: nowhere)");
        WildBells x = new WildBells();
        for (int h = 0; h < 4; h++) {
            x.hunter(h, 9);
        }
        Checks.due("text", Checks.text(x, "hunter 0; hunter 3"), 2);
        int[] due = {-1, 9, 9, -1};
        for (int h = 0; h < 4; h++) {
            Checks.due("hunter " + h, x.hunter(h, -1), due[h]);
        }
    }

    private static void notAsTold() {
        Checks.sentence("FAULT: a NUMBER that isn't as told");
        fault("bell at 64", 8);
        fault("bell note 12", 10);
        fault("bell weight 0", 12);
        fault("bell weight 00", 12);
        fault("bell weight 100", 12);
        fault("net 64", 4);
        fault("thick 64 5", 6);
        fault("thick 5 10", 8);
        fault("hunter 4", 7);
        fault("hunter 3 at 64", 12);
        fault("fear 10", 5);
        fault("fear 5;  fear   10", 16);
    }

    private static void endsTooEarly() {
        Checks.sentence("or how many bytes there are if it ends too early");
        String[] early = {"", " ", "   ", "bell at", "bell at ", "bell note", "bell weight", "bell at 5 note", "net", "net   ", "thick",
            "thick 5", "thick 5 ", "hunter", "hunter 3 at", "hunter 3 at ", "fear", "fear 5;", "fear 5; ", "bell;"};
        for (String s : early) {
            fault(s, s.length());
        }
        String most = "fear 5;".repeat(17);
        fault(most, 119);
        fault(most + " ", 120);
        fault(" ".repeat(120), 120);
        reads(" ".repeat(114) + "fear 5", 1);
        reads("fear 5" + " ".repeat(114), 1);
    }

    private static void firstTokenThatCantStand() {
        Checks.sentence("FAULT: the place (from 0) of the first byte of the first TOKEN that can't stand there");
        fault("  ;", 2);
        fault("fear 5;;", 7);
        fault("fear 5; ;fear 5", 8);
        fault(";fear 5", 0);
        fault("fear ;", 5);
        fault("fear fear", 5);
        fault("fear 5 fear 5", 7);
        fault("net 5 5", 6);
        fault("net 5 at 5", 6);
        fault("thick 5;5", 7);
        fault("thick at", 6);
        fault("hunter at 5", 7);
        fault("hunter 3 5", 9);
        fault("hunter 3 note 5", 9);
        fault("fear 5 at 5", 7);
        fault("net 64; fear 10", 4);
        fault("fear 5; net x; net 64", 12);
        fault("fear 5 999999", 7);
    }

    private static void ninthBell() {
        Checks.sentence("FAULT: the WORD of a 9th BELL: its own");
        fault("bell;bell;bell;bell;bell;bell;bell;bell; herd", 41);
        fault("bell;bell;bell;bell;bell;bell;bell;bell;herd at 64", 40);
        fault("bell;bell;bell;bell;bell;bell;bell;bell;herds", 40);
        reads("bell;bell;bell;bell;bell;bell;bell;bell;fear 5", 9);
        WildBells x = new WildBells();
        for (int b = 0; b < 7; b++) {
            x.bell(0, 0);
        }
        Checks.due("an 8th and a 9th", Checks.text(x, "bell;fear 5;bell"), -1 - 12);
        Checks.due("none came", x.count(1), 7);
        Checks.due("an 8th", Checks.text(x, "bell"), 1);
        Checks.due("a 9th", Checks.text(x, "young"), -1);
        Checks.due("eight", x.count(1), 8);
        Checks.due("no finding", x.status(-1), 0);
    }

    private static void nothingChanges() {
        Checks.sentence("With a FAULT: (nothing changes but that THE TAPE is empty; no finding)");
        String before = "bell at 9;net 62;thick 5 5;hunter 1 at 1;fear 4";
        String items = "bell at 5;net 63;thick 9 4;hunter 2 at 2;fear 8;hunter 1;";
        WildBells x = Checks.woods(before);
        x.seed(7);
        x.hold(1, 0);
        x.image();
        WildBells y = Checks.woods(before);
        y.seed(7);
        y.hold(1, 0);
        y.image();
        Checks.due("a fault at its end", Checks.text(x, items), -1 - items.length());
        for (int which = -1; which < 7; which++) {
            Checks.due("status " + which, x.status(which), 0);
        }
        Checks.holds("nothing changes", Probe.of(x).equals(Probe.of(y)));
    }

    private static void emptyThen() {
        Checks.sentence("THE TAPE is a TEXT, and empty then");
        WildBells x = new WildBells();
        Checks.due("a text", Checks.text(x, "fear 5"), 1);
        Checks.due("empty", x.count(5), 0);
        Checks.due("empty is no text", x.text(), -1);
        Checks.due("a fault", Checks.text(x, "fear"), -5);
        Checks.due("empty", x.wipe(), 0);
    }

    private static void itemByItem() {
        Checks.sentence("all that it tells is so, item by item");
        WildBells x = new WildBells();
        Checks.due("text", Checks.text(x, "fear 1;thick 9 1;hunter 0 at 9;fear 2;thick 9 2;hunter 0;net 9;net 9;hunter 1 at 3;hunter 1 at 4"), 10);
        Checks.due("fear", x.now(3), 2);
        Checks.due("thick", x.cell(9, 1), 2);
        Checks.due("hunter", x.hunter(0, -1), -1);
        Checks.due("hunter", x.hunter(1, -1), 4);
        Checks.due("nets", x.count(3), 1);
        Checks.due("hours don't go", x.now(0), 0);
    }

    private static void howManyItems() {
        Checks.sentence("text: how many ITEMS");
        for (int n = 1; n <= 17; n++) {
            reads("fear 5" + ";fear 5".repeat(n - 1), n);
        }
        reads("net 5" + ";net 5".repeat(19), 20);
    }
}
