import java.util.function.Supplier;
import java.util.function.ToLongFunction;

/**
 * "Each act tells its findings in the order in which they are asked; one that answers a finding changes nothing but
 * status()": each finding of each act, asked on two objects that are alike, of which one does not get the call.
 */
public final class RefusedTest {
    private static final int MIN = Integer.MIN_VALUE;
    private static final int MAX = Integer.MAX_VALUE;
    private static final int B = Checks.BEYOND;

    private static Supplier<WildBells> like = RefusedTest::rich;
    private static int done = 0;

    public static void main(String[] args) {
        woodsBeyond();
        hoursBeyond();
        aheadBeyond();
        soundsBeyond();
        stocksBeyond();
        textsBeyond();
        sheetsBeyond();
        imagesBeyond();
        full();
        state();
        none();
        missing();
        kind();
        size();
        inTheirOrder();
        Checks.sentence("how many were refused");
        Checks.holds("findings: " + done, done > 200);
        Checks.end();
    }

    /** Woods, spots, sheets, a tape and an image of which each part is unlike a new object's. */
    static WildBells rich() {
        return enriched(new WildBells());
    }

    static WildBells enriched(WildBells x) {
        Checks.text(x, "bell at 9 note 3 weight 20;herd at 5;tenor at 27 note 2;net 63;net 62;thick 5 4;hunter 1 at 0;fear 4");
        x.hold(0, 1);
        x.seed(77);
        Checks.sheet(x, 0, 8, 5, 10, 9, 3, 11);
        Checks.sheet(x, 1, 16, 7, 1, 2);
        Checks.sheet(x, 3, 32, 5, 3, -1, 7);
        x.change(1, 4, 1);
        x.image();
        x.go(1);
        x.thick(9, 2);
        x.hold(3, 0);
        Checks.feed(x, "fear 7");
        return x;
    }

    private static WildBells withoutBells() {
        WildBells x = new WildBells();
        Checks.feed(x, "fear 7");
        return x;
    }

    private static WildBells fullOfBells() {
        WildBells x = rich();
        for (int b = 3; b < 8; b++) {
            x.bell(b - 2, 1);
        }
        return x;
    }

    private static WildBells fullTape(int room) {
        WildBells x = rich();
        x.wipe();
        Checks.feed(x, "fear 7" + " ".repeat(114 - room));
        return x;
    }

    private static WildBells allNets() {
        WildBells x = rich();
        for (int c = 0; c < 64; c++) {
            x.net(c, 1);
        }
        return x;
    }

    /** No 512 calls come to such an hour. */
    private static WildBells atHour(int hour) {
        WildBells x = rich();
        for (int h = x.now(0); h < hour; h = x.now(0)) {
            x.go(Math.min(24, hour - h));
        }
        return x;
    }

    private static void refused(String call, long finding, ToLongFunction<WildBells> act) {
        done++;
        Checks.sentence("one that answers a finding changes nothing but status()");
        WildBells with = like.get();
        WildBells without = like.get();
        Checks.due(call, act.applyAsLong(with), finding);
        for (int which = -1; which < 7; which++) {
            int more = which == -1 || which == B - finding ? 1 : 0;
            Checks.due("status " + which + " behind " + call, with.status(which), without.status(which) + more);
        }
        Checks.holds("nothing is changed by " + call, Probe.of(with).equals(Probe.of(without)));
    }

    private static void woodsBeyond() {
        for (int c : new int[] {-1, 64, MIN, MAX}) {
            refused("net cell " + c, B, x -> x.net(c, 1));
            refused("thick cell " + c, B, x -> x.thick(c, 1));
            refused("cell " + c, B, x -> x.cell(c, 0));
            refused("bell cell " + c, B, x -> x.bell(0, c));
            refused("worth cell " + c, B, x -> x.worth(0, c));
            refused("loud cell " + c, B, x -> x.loud(0, c));
        }
        for (int c : new int[] {-2, 64, MIN, MAX}) {
            refused("hunter cell " + c, B, x -> x.hunter(1, c));
        }
        for (int is : new int[] {-1, 2, MIN, MAX}) {
            refused("net is " + is, B, x -> x.net(63, is));
        }
        for (int v : new int[] {-1, 10, MIN, MAX}) {
            refused("thick v " + v, B, x -> x.thick(5, v));
            refused("fear " + v, B, x -> x.fear(v));
        }
        for (int what : new int[] {-1, 4, MIN, MAX}) {
            refused("cell what " + what, B, x -> x.cell(5, what));
        }
        for (int h : new int[] {-1, 4, MIN, MAX}) {
            refused("hunter " + h, B, x -> x.hunter(h, 5));
            refused("drive hunter " + h, B, x -> x.drive(h, 0));
        }
        for (int k : new int[] {-1, 7, MIN, MAX}) {
            refused("bell kind " + k, B, x -> x.bell(k, 5));
        }
        for (int b : new int[] {-1, 3, MIN, MAX}) {
            refused("of bell " + b, B, x -> x.of(b, 0));
            refused("change bell " + b, B, x -> x.change(b, 2, 1));
            refused("worth bell " + b, B, x -> x.worth(b, 5));
            refused("loud bell " + b, B, x -> x.loud(b, 5));
        }
        for (int what : new int[] {-1, 7, MIN, MAX}) {
            refused("of what " + what, B, x -> x.of(0, what));
        }
        for (int what : new int[] {-1, 5, 6, MIN, MAX}) {
            refused("change what " + what, B, x -> x.change(0, what, 1));
        }
        int[][] beyond = {{0, -1}, {0, 7}, {1, -1}, {1, 64}, {2, -1}, {2, 12}, {3, 0}, {3, 100}, {4, -1}, {4, 2}, {0, MIN}, {4, MAX}};
        for (int[] v : beyond) {
            refused("change " + v[0] + " to " + v[1], B, x -> x.change(0, v[0], v[1]));
            refused("change " + v[0] + " of a caught one to " + v[1], B, x -> x.change(1, v[0], v[1]));
        }
    }

    private static void hoursBeyond() {
        for (int n : new int[] {0, -1, 25, MIN, MAX}) {
            refused("go " + n, B, x -> x.go(n));
        }
        for (int what : new int[] {-1, 5, MIN, MAX}) {
            refused("now " + what, B, x -> x.now(what));
        }
        for (int n : new int[] {0, -1, 21, MIN, MAX}) {
            refused("thunder " + n, B, x -> x.thunder(n));
        }
    }

    private static void aheadBeyond() {
        for (int b : new int[] {-1, 3, MIN, MAX}) {
            refused("ahead bell " + b, B, x -> x.ahead(b, 1));
            refused("when bell " + b, B, x -> x.when(b));
            refused("netFor bell " + b, B, x -> x.netFor(b));
            refused("drive bell " + b, B, x -> x.drive(0, b));
            refused("kindFor bell " + b, B, x -> x.kindFor(b));
        }
        for (int n : new int[] {-1, 61, MIN, MAX}) {
            refused("ahead " + n, B, x -> x.ahead(0, n));
            refused("caught " + n, B, x -> x.caught(n));
        }
        for (int n : new int[] {-1, 21, MIN, MAX}) {
            refused("best " + n, B, x -> x.best(n));
        }
    }

    private static void soundsBeyond() {
        for (int s : new int[] {-1, 4, MIN, MAX}) {
            refused("stands sheet " + s, B, x -> x.stands(s, 10));
            refused("where sheet " + s, B, x -> x.where(s, 10));
            refused("ear sheet " + s, B, x -> x.ear(s, 10));
            refused("whose sheet " + s, B, x -> x.whose(s));
        }
        for (int w : new int[] {0, -1, 100, MIN, MAX}) {
            refused("stands weight " + w, B, x -> x.stands(0, w));
            refused("where weight " + w, B, x -> x.where(0, w));
            refused("ear weight " + w, B, x -> x.ear(0, w));
        }
    }

    private static void stocksBeyond() {
        for (int n : new int[] {-1, 10000, MIN, MAX}) {
            refused("stock " + n, B, x -> x.stock(n, 1, 1));
            refused("lasts " + n, B, x -> x.lasts(n, 1));
        }
        for (int c : new int[] {-1, 1000, MIN, MAX}) {
            refused("stock c " + c, B, x -> x.stock(1, c, 1));
        }
        for (int y : new int[] {-1, 100, MIN, MAX}) {
            refused("stock y " + y, B, x -> x.stock(1, 1, y));
        }
        for (int y : new int[] {0, -1, 100, MIN, MAX}) {
            refused("lasts y " + y, B, x -> x.lasts(1, y));
        }
        for (int n : new int[] {-1, 21, MIN, MAX}) {
            refused("changes " + n, B, x -> x.changes(n));
        }
    }

    private static void textsBeyond() {
        for (int n : new int[] {0, -1, 5, MIN, MAX}) {
            refused("feed n " + n, B, x -> x.feed(65, n));
        }
    }

    private static void sheetsBeyond() {
        for (int s : new int[] {-1, 10, MIN, MAX}) {
            refused("hold spot " + s, B, x -> x.hold(s, 0));
            refused("hold nothing in spot " + s, B, x -> x.hold(s, -1));
            refused("as spot " + s, B, x -> x.as(s, 0));
        }
        for (int b : new int[] {-2, 3, MIN, MAX}) {
            refused("hold bell " + b, B, x -> x.hold(0, b));
        }
        for (int k : new int[] {-1, 7, MIN, MAX}) {
            refused("as kind " + k, B, x -> x.as(0, k));
            refused("as kind " + k + " of nothing", B, x -> x.as(1, k));
        }
        for (int s : new int[] {-1, 4, MIN, MAX}) {
            refused("sheet " + s, B, x -> x.sheet(s, 8, 1));
            refused("write sheet " + s, B, x -> x.write(s, 0, 1));
            refused("copy sheet " + s, B, x -> x.copy(s, 0, 0, 0, 1));
            refused("copy to sheet " + s, B, x -> x.copy(0, 0, s, 0, 1));
            refused("load sheet " + s, B, x -> x.load(s));
            refused("judge sheet " + s, B, x -> x.judge(s));
        }
        for (int bits : new int[] {-1, 1, 7, 9, 15, 17, 24, 31, 33, 64, -8, MIN, MAX}) {
            refused("sheet of bits " + bits, B, x -> x.sheet(0, bits, 1));
        }
        for (int n : new int[] {41, MAX}) {
            refused("sheet of numbers " + n, B, x -> x.sheet(0, 8, n));
            refused("missing sheet of numbers " + n, B, x -> x.sheet(0, 0, n));
        }
        for (int i : new int[] {-1, 5, 6, 40, MIN, MAX}) {
            refused("write number " + i, B, x -> x.write(0, i, 1));
        }
        int[][] beyond = {{-1, 0, 1}, {0, -1, 1}, {0, 0, -1}, {5, 0, 1}, {0, 5, 1}, {0, 1, 5}, {1, 0, 5}, {0, 0, 6}, {6, 0, 0},
            {0, 6, 0}, {-1, 0, 0}, {0, -1, 0}, {MIN, 0, 1}, {MAX, 0, 1}, {0, MIN, 1}, {0, MAX, 1}, {0, 0, MIN}, {0, 0, MAX}, {1, 1, MAX},
            {MAX, MAX, MAX}};
        for (int[] c : beyond) {
            refused("copy " + c[0] + " to " + c[1] + " of " + c[2], B, x -> x.copy(0, c[0], 0, c[1], c[2]));
        }
    }

    private static void imagesBeyond() {
        for (int what : new int[] {-1, 8, MIN, MAX}) {
            refused("count " + what, B, x -> x.count(what));
        }
        for (int which : new int[] {-2, 7, 8, MIN, MAX}) {
            refused("status " + which, B, x -> x.status(which));
        }
    }

    private static void full() {
        like = RefusedTest::fullOfBells;
        refused("a 9th bell", Checks.FULL, x -> x.bell(0, 0));
        for (int n = 1; n <= 4; n++) {
            int many = n;
            like = () -> fullTape(many - 1);
            refused("feed " + n + " with room for one less", Checks.FULL, x -> x.feed(-1, many));
        }
        like = RefusedTest::rich;
    }

    private static void state() {
        like = RefusedTest::withoutBells;
        refused("thunder without bells", Checks.STATE, x -> x.thunder(1));
        like = () -> atHour(99999);
        refused("go 1 in the last hour", Checks.STATE, x -> x.go(1));
        refused("thunder 1 in the last hour", Checks.STATE, x -> x.thunder(1));
        like = () -> atHour(99976);
        refused("go 24 with 23 hours left", Checks.STATE, x -> x.go(24));
        like = () -> atHour(99980);
        refused("thunder 20 with 19 hours left", Checks.STATE, x -> x.thunder(20));
        like = RefusedTest::rich;
        refused("stands, an ear is no cell", Checks.STATE, x -> x.stands(3, 10));
        refused("where, an ear is no cell", Checks.STATE, x -> x.where(3, 10));
        refused("ear, an ear is no cell", Checks.STATE, x -> x.ear(3, 10));
        refused("whose, an ear is no cell", Checks.STATE, x -> x.whose(3));
    }

    private static void none() {
        refused("when, never", Checks.NONE, x -> x.when(2));
        refused("drive, nowhere", Checks.NONE, x -> x.drive(0, 2));
        refused("where, in no cell", Checks.NONE, x -> x.where(0, 98));
        refused("ear, in no cell", Checks.NONE, x -> x.ear(0, 98));
        like = RefusedTest::allNets;
        refused("netFor, no cell is without", Checks.NONE, x -> x.netFor(0));
        refused("best, no cell is without", Checks.NONE, x -> x.best(1));
        like = RefusedTest::withoutBells;
        refused("undo, nothing is kept", Checks.NONE, x -> x.undo());
        like = () -> Checks.procession(0);
        refused("still, not for 60 hours", Checks.NONE, x -> x.still());
        like = RefusedTest::rich;
    }

    private static void missing() {
        refused("as, the spot holds nothing", Checks.MISSING, x -> x.as(1, 0));
        refused("write, the sheet is missing", Checks.MISSING, x -> x.write(2, 0, 1));
        refused("copy from a missing one", Checks.MISSING, x -> x.copy(2, 0, 0, 0, 1));
        refused("copy to a missing one", Checks.MISSING, x -> x.copy(0, 0, 2, 0, 1));
        refused("copy of a missing one to itself", Checks.MISSING, x -> x.copy(2, 0, 2, 0, 0));
        refused("load, the sheet is missing", Checks.MISSING, x -> x.load(2));
        refused("judge, the sheet is missing", Checks.MISSING, x -> x.judge(2));
        refused("stands, the sheet is missing", Checks.MISSING, x -> x.stands(2, 10));
        refused("where, the sheet is missing", Checks.MISSING, x -> x.where(2, 10));
        refused("ear, the sheet is missing", Checks.MISSING, x -> x.ear(2, 10));
        refused("whose, the sheet is missing", Checks.MISSING, x -> x.whose(2));
    }

    private static void kind() {
        refused("as a kind beside its own", Checks.KIND, x -> x.as(3, 1));
        refused("as a kind under its own", Checks.KIND, x -> x.as(0, 6));
        refused("copy from 8 to 16 bits", Checks.KIND, x -> x.copy(0, 0, 1, 0, 1));
        refused("copy from 16 to 8 bits", Checks.KIND, x -> x.copy(1, 0, 0, 0, 1));
        refused("copy from 32 to 16 bits", Checks.KIND, x -> x.copy(3, 0, 1, 0, 0));
    }

    private static void size() {
        for (int n : new int[] {-1, -41, MIN}) {
            refused("sheet of numbers " + n, Checks.SIZE, x -> x.sheet(0, 8, n));
            refused("missing sheet of numbers " + n, Checks.SIZE, x -> x.sheet(0, 0, n));
        }
    }

    private static void inTheirOrder() {
        like = RefusedTest::fullOfBells;
        refused("bell: beyond, then full", B, x -> x.bell(7, 0));
        refused("bell: beyond, then full", B, x -> x.bell(0, 64));
        like = () -> fullTape(0);
        refused("feed: beyond, then full", B, x -> x.feed(0, 5));
        like = () -> atHour(99999);
        refused("go: beyond, then state", B, x -> x.go(25));
        refused("thunder: beyond, then state", B, x -> x.thunder(21));
        like = RefusedTest::withoutBells;
        refused("thunder: beyond, then no bells", B, x -> x.thunder(0));
        like = RefusedTest::rich;
        refused("stands: no such sheet, then the weight", B, x -> x.stands(4, 0));
        refused("stands: missing, then the weight", Checks.MISSING, x -> x.stands(2, 0));
        refused("stands: the weight, then the ear", B, x -> x.stands(3, 0));
        refused("where: missing, then the weight", Checks.MISSING, x -> x.where(2, 100));
        refused("where: the weight, then the ear", B, x -> x.where(3, 100));
        refused("ear: missing, then the weight", Checks.MISSING, x -> x.ear(2, 0));
        refused("ear: the weight, then the ear", B, x -> x.ear(3, 100));
        refused("as: beyond, then missing", B, x -> x.as(1, 7));
        refused("sheet: no such one, then size", B, x -> x.sheet(4, 8, -1));
        refused("sheet: other bits, then size", B, x -> x.sheet(0, 9, -1));
        refused("write: no such sheet, then missing", B, x -> x.write(4, -1, 0));
        refused("write: missing, then no such number", Checks.MISSING, x -> x.write(2, -1, 0));
        refused("copy: no such sheet, then missing", B, x -> x.copy(2, 0, 4, 0, 1));
        refused("copy: missing, then other bits", Checks.MISSING, x -> x.copy(2, 0, 0, -1, 1));
        refused("copy: other bits, then beyond", Checks.KIND, x -> x.copy(0, -1, 1, 0, 1));
    }
}
