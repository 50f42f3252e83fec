import java.util.function.Consumer;
import java.util.function.ToLongFunction;

/**
 * An act that is not refused changes what it tells and nothing else: those that only ask change nothing at all; of those
 * that change something, what they change is put back, and all that can be told is as it is of an object without both.
 */
public final class OthersStayTest {
    public static void main(String[] args) {
        asking();
        puttingBack();
        hours();
        items();
        undone();
        tapes();
        images();
        Checks.end();
    }

    private static void alike(String what, Consumer<WildBells> acts, Consumer<WildBells> others) {
        Checks.sentence("nothing else is changed");
        WildBells x = RefusedTest.rich();
        acts.accept(x);
        Checks.due("findings of " + what, x.status(-1), 0);
        WildBells y = RefusedTest.rich();
        others.accept(y);
        Checks.holds("all but what it tells stays behind " + what, Probe.of(x).equals(Probe.of(y)));
    }

    private static void asks(String what, ToLongFunction<WildBells> act) {
        alike(what, x -> act.applyAsLong(x), x -> { });
    }

    private static void asking() {
        for (int what = 0; what < 8; what++) {
            int w = what;
            asks("count " + w, x -> x.count(w));
            asks("status " + (w - 1), x -> x.status(w - 1));
            asks("of " + w, x -> x.of(0, w % 7));
            asks("now " + w, x -> x.now(w % 5));
            asks("cell " + w, x -> x.cell(9, w % 4));
        }
        asks("worth", x -> x.worth(2, 40));
        asks("loud", x -> x.loud(2, 27));
        asks("ahead", x -> x.ahead(0, 60));
        asks("when", x -> x.when(1));
        asks("still", x -> x.still());
        asks("caught", x -> x.caught(60));
        asks("netFor", x -> x.netFor(2));
        asks("best", x -> x.best(20));
        asks("drive", x -> x.drive(1, 1));
        asks("kindFor", x -> x.kindFor(2));
        asks("stands", x -> x.stands(0, 10));
        asks("where", x -> x.where(1, 7));
        asks("ear", x -> x.ear(1, 7));
        asks("whose", x -> x.whose(0));
        asks("stock", x -> x.stock(9999, 5, 99));
        asks("lasts", x -> x.lasts(9999, 99));
        asks("ring", x -> x.ring());
        asks("rings", x -> x.rings());
        asks("peals", x -> x.peals());
        asks("wanted", x -> x.wanted());
        asks("changes", x -> x.changes(20));
        asks("as", x -> x.as(0, 1));
        asks("judge", x -> x.judge(0));
    }

    private static void puttingBack() {
        alike("net", x -> {
            x.net(5, 1);
            x.net(5, 0);
        }, x -> { });
        alike("thick", x -> x.thick(5, x.thick(5, 9)), x -> { });
        alike("hunter", x -> x.hunter(1, x.hunter(1, 63)), x -> { });
        alike("fear", x -> x.fear(x.fear(9)), x -> { });
        alike("seed", x -> x.seed(x.seed(-1)), x -> { });
        for (int what = 0; what < 5; what++) {
            int w = what;
            alike("change " + w, x -> x.change(1, w, x.change(1, w, 1)), x -> { });
        }
        alike("hold", x -> {
            x.hold(5, 2);
            x.hold(5, -1);
        }, x -> { });
        alike("sheet", x -> {
            x.sheet(2, 32, 40);
            x.sheet(2, 0, 40);
        }, x -> { });
        alike("write", x -> {
            x.write(0, 3, 8);
            x.write(0, 3, 3);
        }, x -> { });
        alike("copy", x -> x.copy(1, 1, 1, 1, 2), x -> { });
        alike("load", x -> {
            int first = x.of(0, 2);
            int second = x.of(1, 2);
            int third = x.of(2, 2);
            x.load(1);
            x.change(0, 2, first);
            x.change(1, 2, second);
            x.change(2, 2, third);
        }, x -> { });
    }

    /** Hours that went by ahead of all other acts, and hours behind them, with the bells put back to where they were. */
    private static void hours() {
        Checks.sentence("nothing else is changed");
        for (int thunder = 0; thunder < 2; thunder++) {
            WildBells x = RefusedTest.rich();
            x.tear();
            int[] at = {x.of(0, 1), x.of(1, 1), x.of(2, 1)};
            if (thunder == 0) {
                x.go(20);
            } else {
                x.thunder(20);
                x.seed(77);
            }
            for (int b = 0; b < 3; b++) {
                x.change(b, 1, at[b]);
                x.change(b, 4, b == 1 ? 1 : 0);
            }
            WildBells y = new WildBells();
            y.go(20);
            RefusedTest.enriched(y);
            y.tear();
            Checks.holds("all but the hour and the bells' places stays", Probe.of(x).equals(Probe.of(y)));
        }
    }

    private static void items() {
        reads("fear 7", x -> x.fear(7));
        reads("net 5", x -> x.net(5, 1));
        reads("thick 9 8", x -> x.thick(9, 8));
        reads("hunter 2 at 63", x -> x.hunter(2, 63));
        reads("hunter 1", x -> x.hunter(1, -1));
        reads("young at 62 note 4 weight 5", x -> {
            x.bell(6, 62);
            x.change(3, 2, 4);
            x.change(3, 3, 5);
        });
    }

    private static void reads(String text, Consumer<WildBells> acts) {
        alike("the text " + text, x -> Checks.text(x, text), x -> {
            x.wipe();
            acts.accept(x);
        });
    }

    private static void undone() {
        Consumer<WildBells> kept = x -> x.image();
        alike("bell", x -> {
            x.image();
            x.bell(4, 5);
            x.undo();
        }, kept);
        alike("go", x -> {
            x.image();
            x.go(24);
            x.undo();
        }, kept);
        alike("thunder", x -> {
            x.image();
            x.thunder(20);
            x.undo();
        }, kept);
    }

    private static void tapes() {
        alike("text", x -> {
            x.image();
            x.text();
            x.undo();
        }, x -> {
            x.image();
            x.wipe();
        });
        alike("a text with a fault", x -> {
            x.feed('!', 1);
            x.text();
        }, x -> x.wipe());
        alike("wipe and feed", x -> {
            x.wipe();
            Checks.feed(x, "fear 7");
        }, x -> { });
    }

    private static void images() {
        alike("image", x -> {
            x.image();
            x.tear();
        }, x -> x.tear());
        alike("image, again", x -> {
            x.image();
            x.image();
        }, x -> x.image());
        alike("undo", x -> {
            x.image();
            x.undo();
            x.undo();
        }, x -> x.image());
        alike("tear", x -> {
            x.tear();
            x.tear();
        }, x -> x.tear());
    }
}
