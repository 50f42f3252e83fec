/** Promises 33 to 37: thunder, the seed, the tape and texts. */
public final class TextsTest {
    public static void main(String[] args) {
        thunders();
        thunderAndCaughtOnes();
        seeds();
        feeding();
        wiping();
        items();
        order();
        spelling();
        faults();
        ninthBell();
        faultChangesNothing();
        Checks.end();
    }

    private static void thunders() {
        WildBells x = new WildBells();
        Checks.due("no bells", x.thunder(1), Checks.STATE);
        Checks.due("no bells and beyond", x.thunder(21), Checks.BEYOND);
        Checks.due("thunder 0", x.thunder(0), Checks.BEYOND);
        Checks.due("no draw was made", x.count(6), 1);
        x.bell(0, 0);
        x.bell(0, 0);
        x.bell(0, 0);
        // The draws from 1 on are 4310654, 9862832; 2589156, 12872603; 16337887, 9829236; 14279350, 10288046.
        Checks.due("thunder", x.thunder(1), 0);
        Checks.due("the bell of the first draw", x.of(2, 1), 48);
        Checks.due("z behind two draws", x.count(6), -1770082073);
        Checks.due("thunder again", x.thunder(3), 0);
        Checks.due("the bell of the third draw", x.of(0, 1), 27);
        Checks.due("the bell of the fifth and the seventh draw", x.of(1, 1), 46);
        Checks.due("z behind eight draws", x.count(6), -1661227463);
        Checks.due("hours", x.now(0), 4);
        x.thunder(20);
        Checks.due("hours", x.now(0), 24);
    }

    private static void thunderAndCaughtOnes() {
        WildBells x = Checks.woods("bell at 5; tame at 63; net 48; net 5; net 3");
        x.seed(-5);
        // The draws from -5 on are 12001448, 438034; 2396024, 3163296; 7570477, 10408292.
        Checks.due("thrown to a cell, caught there", Checks.woods("bell; net 62; net 48").thunder(1), 1);
        x.change(0, 4, 1);
        Checks.due("one was caught", x.thunder(1), 1);
        Checks.due("a caught one isn't thrown", x.of(0, 1), 5);
        Checks.due("drawn all the same", x.count(6), 112136817);
        x.change(0, 4, 0);
        Checks.due("it is caught again", x.thunder(1), 0);
        Checks.due("thrown when free", x.of(0, 1), 32);
        Checks.due("the hour goes by behind the thunder", x.of(1, 1), 47);
        x.net(28, 1);
        Checks.due("how many are caught", x.thunder(1), 1);
        Checks.due("thrown, gone and caught", x.of(1, 1), 36 - 8);
    }

    private static void seeds() {
        WildBells x = new WildBells();
        Checks.due("seed at first", x.seed(Checks.BEYOND), 1);
        Checks.due("a seed is no finding", x.seed(Integer.MIN_VALUE), Checks.BEYOND);
        Checks.due("nor is z", x.count(6), Integer.MIN_VALUE);
        Checks.due("no finding", x.status(-1), 0);
    }

    private static void feeding() {
        WildBells x = new WildBells();
        Checks.due("feed 0", x.feed(65, 0), Checks.BEYOND);
        Checks.due("feed 5", x.feed(65, 5), Checks.BEYOND);
        Checks.due("feed -1", x.feed(65, -1), Checks.BEYOND);
        Checks.due("the lowest alone", x.feed(0x3b3b3b62, 1), 1);
        Checks.due("the highest first", x.feed(0x3b656c6c, 3), 4);
        Checks.due("a blank before", x.feed(0x2061, 2), 6);
        Checks.due("four", x.feed(0x74203235, 4), 10);
        Checks.due("the text", x.text(), 1);
        Checks.due("as told", x.of(0, 1), 25);
        Checks.due("the tape is empty", x.count(5), 0);
        for (int i = 1; i <= 29; i++) {
            Checks.due("feed on", x.feed(-1, 4), 4 * i);
        }
        Checks.due("feed on", x.feed(-1, 3), 119);
        Checks.due("full", x.feed(0, 2), Checks.FULL);
        Checks.due("beyond before full", x.feed(0, 5), Checks.BEYOND);
        Checks.due("unchanged", x.count(5), 119);
        Checks.due("to the brim", x.feed(0, 1), 120);
        Checks.due("full", x.feed(0, 1), Checks.FULL);
        Checks.due("bytes are no signed numbers", x.text(), -1);
    }

    private static void wiping() {
        WildBells x = new WildBells();
        Checks.due("wipe nothing", x.wipe(), 0);
        Checks.feed(x, "zzz");
        Checks.due("wipe", x.wipe(), 3);
        Checks.due("wiped", x.count(5), 0);
        Checks.due("a text behind it", Checks.text(x, "fear 1"), 1);
    }

    private static void items() {
        String[] words = {"bell", "herd", "lone", "tenor", "eldest", "tame", "young"};
        for (int k = 0; k < 7; k++) {
            WildBells x = new WildBells();
            Checks.due(words[k], Checks.text(x, words[k]), 1);
            int[] first = {k, 0, 0, 10, 0};
            for (int what = 0; what < 5; what++) {
                Checks.due(words[k] + " " + what, x.of(0, what), first[what]);
            }
        }
        WildBells x = new WildBells();
        Checks.due("bells", Checks.text(x, "herd at 63 note 11 weight 99; lone note 7; tame weight 1; bell at 5 weight 6"), 4);
        int[][] told = {{1, 63, 11, 99}, {2, 0, 7, 10}, {5, 0, 0, 1}, {0, 5, 0, 6}};
        for (int b = 0; b < 4; b++) {
            for (int what = 0; what < 4; what++) {
                Checks.due("bell " + b + " " + what, x.of(b, what), told[b][what]);
            }
        }
        Checks.due("the rest", Checks.text(x, "net 63; thick 0 9; hunter 3 at 62; fear 0; hunter 0 at 0"), 5);
        Checks.due("net", x.cell(63, 0), 1);
        Checks.due("thick", x.cell(0, 1), 9);
        Checks.due("hunter", x.hunter(3, 62), 62);
        Checks.due("fear", x.now(3), 0);
        Checks.due("a net once more", Checks.text(x, "net 63;net 63"), 2);
        Checks.due("nets", x.count(3), 1);
        Checks.due("nowhere", Checks.text(x, "hunter 3"), 1);
        Checks.due("gone", x.hunter(3, -1), -1);
        Checks.due("another stays", x.hunter(0, -1), 0);
    }

    private static void order() {
        WildBells x = new WildBells();
        Checks.due("item by item", Checks.text(x, "fear 1; thick 5 1; fear 2; thick 5 2; hunter 1 at 5; hunter 1"), 6);
        Checks.due("the last fear", x.now(3), 2);
        Checks.due("the last thick", x.cell(5, 1), 2);
        Checks.due("the last place", x.hunter(1, 1), -1);
    }

    private static void spelling() {
        WildBells x = new WildBells();
        Checks.due("no blanks", Checks.text(x, "bell at5note3weight7;net5;thick5 6;hunter1at7;fear4"), 5);
        Checks.due("as told", x.of(0, 3), 7);
        Checks.due("blanks anywhere", Checks.text(x, "   net   5 ;  fear  6   "), 2);
        Checks.due("noughts before", Checks.text(x, "net 00000000000000000000063"), 1);
        Checks.due("as told", x.cell(63, 0), 1);
        Checks.due("words are as long as can be", Checks.text(x, "bells"), -1);
        Checks.due("words are as long as can be", Checks.text(x, "bel l"), -1);
        Checks.due("words are as long as can be", Checks.text(x, "bell atnote 3"), -1 - 5);
        Checks.due("numbers are as long as can be", Checks.text(x, "thick 56"), -1 - 8);
        Checks.due("large letters are none", Checks.text(x, "Bell"), -1);
        Checks.due("other blanks are none", Checks.text(x, "fear\t3"), -1 - 4);
        Checks.due("other blanks are none", Checks.text(x, "fear 3\n"), -1 - 6);
    }

    private static void fault(String s, int place) {
        WildBells x = new WildBells();
        Checks.due("fault: " + s, Checks.text(x, s), -1 - place);
        Checks.due("the tape is empty: " + s, x.count(5), 0);
        Checks.due("no finding: " + s, x.status(-1), 0);
    }

    private static void faults() {
        fault("", 0);
        fault("   ", 3);
        fault(";", 0);
        fault("5", 0);
        fault("  at 5", 2);
        fault("-", 0);
        fault("bellz", 0);
        fault("bell at", 7);
        fault("bell at ", 8);
        fault("bell at 64", 8);
        fault("bell at 1000", 8);
        fault("bell at 99999999999999999999999", 8);
        fault("bell at 18446744073709551621", 8);
        fault("bell at 4294967297", 8);
        fault("bell at -1", 8);
        fault("bell at x", 8);
        fault("bell at;", 7);
        fault("bell 5", 5);
        fault("bell at 5 at 6", 10);
        fault("bell note", 9);
        fault("bell note 12", 10);
        fault("bell weight", 11);
        fault("bell weight 0", 12);
        fault("bell weight 100", 12);
        fault("bell note 3 at 5", 12);
        fault("bell weight 3 note 5", 14);
        fault("bell weight 3 at 5", 14);
        fault("bell bell", 5);
        fault("net", 3);
        fault("net;", 3);
        fault("net 64", 4);
        fault("net at 5", 4);
        fault("net 5 5", 6);
        fault("net 5 at 5", 6);
        fault("thick", 5);
        fault("thick 64 5", 6);
        fault("thick 5", 7);
        fault("thick 5 10", 8);
        fault("thick 5;6", 7);
        fault("thick 5 6 7", 10);
        fault("hunter", 6);
        fault("hunter 4", 7);
        fault("hunter at 5", 7);
        fault("hunter 3 at", 11);
        fault("hunter 3 at 64", 12);
        fault("hunter 3 5", 9);
        fault("hunter 3 note 5", 9);
        fault("fear", 4);
        fault("fear 10", 5);
        fault("fear 9 9", 7);
        fault("fear 9;", 7);
        fault("fear 9; ", 8);
        fault("fear 9;;", 7);
        fault("fear 9; 5", 8);
        fault("fear 9; fears 3", 8);
        fault("fear 9, fear 3", 6);
        fault("fear 9; fear 8; \0", 16);
        fault("fear 9\u00ff", 6);
    }

    private static void ninthBell() {
        WildBells x = new WildBells();
        Checks.due("eight", Checks.text(x, "bell;bell;bell;bell;bell;bell;bell;bell"), 8);
        Checks.due("a ninth", Checks.text(x, "fear 1; tenor at 64"), -1 - 8);
        Checks.due("no finding", x.status(-1), 0);
        x = Checks.woods("bell;bell;bell;bell;bell;bell");
        Checks.due("a ninth in one text", Checks.text(x, "herd;herd;   young at 5"), -1 - 13);
        Checks.due("none came", x.count(1), 6);
        Checks.due("a fault before it", Checks.text(x, "herd;herd at 64;young"), -1 - 13);
        Checks.due("just eight", Checks.text(x, "herd;herd;fear 1"), 3);
    }

    private static void faultChangesNothing() {
        WildBells x = Checks.woods("bell at 9; fear 2");
        Checks.due("a fault at the end", Checks.text(x, "bell; net 3; thick 4 4; hunter 2 at 2; fear 9; fear 10"), -1 - 52);
        Checks.due("bells", x.count(1), 1);
        Checks.due("nets", x.count(3), 0);
        Checks.due("thick", x.cell(4, 1), 0);
        Checks.due("hunter", x.hunter(2, -1), -1);
        Checks.due("fear", x.now(3), 2);
        Checks.due("the tape", x.count(5), 0);
    }
}
