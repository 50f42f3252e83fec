import java.util.ArrayList;
import java.util.List;

/**
 * All that can be told of an object, but for its status, as one list; what is told of it last uses it up. The tests that
 * compare such lists put nets, thickets and bells at CELLS alone, and small numbers into sheets.
 */
final class Probe {
    static final int[] CELLS = {0, 1, 5, 9, 27, 62, 63};

    private final WildBells x;
    private final List<Integer> told = new ArrayList<>();

    private Probe(WildBells x) {
        this.x = x;
    }

    static List<Integer> of(WildBells x) {
        Probe p = new Probe(x);
        p.woods();
        p.told.add(x.text());
        p.woods();
        p.sheets();
        p.told.add(x.undo());
        p.woods();
        p.told.add(x.tear());
        return p.told;
    }

    private void woods() {
        for (int what = 0; what < 8; what++) {
            told.add(x.count(what));
        }
        for (int what = 0; what < 5; what++) {
            told.add(x.now(what));
        }
        for (int cell : CELLS) {
            for (int what = 0; what < 4; what++) {
                told.add(x.cell(cell, what));
            }
        }
        for (int bell = 0; bell < x.count(1); bell++) {
            for (int what = 0; what < 7; what++) {
                told.add(x.of(bell, what));
            }
        }
        for (int hunter = 0; hunter < 4; hunter++) {
            int at = x.hunter(hunter, -1);
            told.add(at);
            x.hunter(hunter, at);
        }
        for (int spot = 0; spot < 10; spot++) {
            told.add(x.as(spot, 0));
        }
    }

    private void sheets() {
        // Eight bells, so that eight numbers of a sheet can be told.
        for (int i = 0; i < 8; i++) {
            told.add(x.bell(0, 0));
        }
        for (int s = 0; s < 4; s++) {
            loaded(s);
            // A number that is another one in 8, in 16 and in 32 bits.
            told.add(x.write(s, 0, 65536 + 3));
            loaded(s);
            x.write(s, 0, 256 + 3);
            loaded(s);
            for (int i = 1; i < 9; i++) {
                told.add(x.write(s, i, 0));
            }
            told.add(x.write(s, 39, 0));
        }
    }

    private void loaded(int s) {
        told.add(x.load(s));
        for (int bell = 0; bell < x.count(1); bell++) {
            told.add(x.of(bell, 2));
        }
    }
}
