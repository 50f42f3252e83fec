/** Wild bells in the woods, and how parishes catch theirs. README.md tells how to use it. */
public final class WildBells {
    private static final int LOW = -1000001;
    private static final int BEYOND = 0;
    private static final int FULL = 1;
    private static final int KIND = 2;
    private static final int NONE = 3;
    private static final int STATE = 4;
    private static final int MISSING = 5;
    private static final int SIZE = 6;
    private static final int FINDINGS = 7;
    private static final int NO_FINDING = -1;

    private static final int CELLS = 64;
    private static final int FARTHEST = 14;
    /** More than any two cells are apart, so that what is less it is never below 0. */
    private static final int HERD_REACH = 20;
    private static final int HUNTERS = 4;
    private static final int MOST_FEAR = 9;
    private static final int MOST_THICK = 9;
    private static final int MOST_BELLS = 8;
    private static final int NOTES = 12;
    private static final int MOST_WEIGHT = 99;
    private static final int LAST_HOUR = 99999;
    private static final int LOOK_AHEAD = 60;
    private static final int HUNT_AHEAD = 20;
    private static final int MOST_STOCK = 9999;
    private static final int MOST_CATCH = 999;
    private static final int MOST_YEARS = 99;
    private static final int SPOTS = 10;
    private static final int SHEETS = 4;
    private static final int MOST_NUMBERS = 40;
    private static final int MOST_BYTES = 120;

    private static final int KINDS = 7;
    private static final int BELL = 0;
    private static final int HERD = 1;
    private static final int LONE = 2;
    private static final int TENOR = 3;
    private static final int ELDEST = 4;
    private static final int TAME = 5;
    private static final int YOUNG = 6;
    private static final int[] KIND_ABOVE = {-1, BELL, BELL, LONE, TENOR, BELL, HERD};

    private final Woods woods;
    /** What will be is tried here, so that the woods themselves stay as they are. */
    private final Woods trial;
    private final Woods kept;
    private boolean anyKept;
    private final Tape tape;
    private final Sheet[] sheets;
    private final int[] told;
    /** How many cells are as far from an ear; the last place counts those too far to be heard. */
    private final int[] groups;

    public WildBells() {
        woods = new Woods();
        trial = new Woods();
        kept = new Woods();
        anyKept = false;
        tape = new Tape();
        sheets = new Sheet[SHEETS];
        for (int s = 0; s < SHEETS; s++) {
            sheets[s] = new Sheet();
        }
        told = new int[FINDINGS];
        groups = new int[FARTHEST + 2];
    }

    // ---- the woods, hunters, bells

    public int net(int cell, int is) {
        if (!isCell(cell) || is < 0 || is > 1) {
            return finding(BEYOND);
        }
        boolean isNew = woods.hasNet(cell) != (is == 1);
        woods.setNet(cell, is == 1);
        return isNew ? 1 : 0;
    }

    public int thick(int cell, int v) {
        if (!isCell(cell) || v < 0 || v > MOST_THICK) {
            return finding(BEYOND);
        }
        int was = woods.thickness[cell];
        woods.thickness[cell] = v;
        return was;
    }

    public int cell(int cell, int what) {
        if (!isCell(cell)) {
            return finding(BEYOND);
        }
        switch (what) {
            case 0:
                return woods.hasNet(cell) ? 1 : 0;
            case 1:
                return woods.thickness[cell];
            case 2:
                return woods.heardAt(cell);
            case 3:
                return woods.bellsAt(cell);
            default:
                return finding(BEYOND);
        }
    }

    public int hunter(int hunter, int cell) {
        if (!isHunter(hunter) || cell != -1 && !isCell(cell)) {
            return finding(BEYOND);
        }
        int was = woods.hunterAt[hunter];
        woods.hunterAt[hunter] = cell;
        return was;
    }

    public int fear(int v) {
        if (v < 0 || v > MOST_FEAR) {
            return finding(BEYOND);
        }
        int was = woods.mostFear;
        woods.mostFear = v;
        return was;
    }

    public int bell(int kind, int cell) {
        if (!isKind(kind) || !isCell(cell)) {
            return finding(BEYOND);
        }
        if (woods.bells >= MOST_BELLS) {
            return finding(FULL);
        }
        return woods.addBell(kind, cell);
    }

    public int of(int bell, int what) {
        if (!isBell(bell)) {
            return finding(BEYOND);
        }
        switch (what) {
            case 5:
                return woods.nextCell(bell);
            case 6:
                return woods.worthFor(bell, woods.at[bell]);
            default:
                return isTrait(what) ? woods.trait(bell, what) : finding(BEYOND);
        }
    }

    public int change(int bell, int what, int v) {
        if (!isBell(bell) || !isTrait(what) || !suits(what, v)) {
            return finding(BEYOND);
        }
        int was = woods.trait(bell, what);
        woods.setTrait(bell, what, v);
        return was;
    }

    public int worth(int bell, int cell) {
        if (!isBell(bell) || !isCell(cell)) {
            return finding(BEYOND);
        }
        return woods.worthFor(bell, cell);
    }

    // ---- hours

    public int go(int n) {
        if (n < 1 || n > 24) {
            return finding(BEYOND);
        }
        if (woods.hour + n > LAST_HOUR) {
            return finding(STATE);
        }
        for (int h = 0; h < n; h++) {
            woods.hourGoes();
        }
        return Integer.bitCount(woods.caughtBells);
    }

    public int now(int what) {
        switch (what) {
            case 0:
                return woods.hour;
            case 1:
                return woods.caughtBells;
            case 2:
                return Long.bitCount(woods.nets);
            case 3:
                return woods.mostFear;
            case 4:
                return woods.weightOf(woods.caughtBells);
            default:
                return finding(BEYOND);
        }
    }

    public int loud(int bell, int cell) {
        if (!isBell(bell) || !isCell(cell)) {
            return finding(BEYOND);
        }
        return loudness(woods.weight[bell], apart(woods.at[bell], cell));
    }

    // ---- what will be (nothing changes)

    public int ahead(int bell, int n) {
        if (!isBell(bell) || n < 0 || n > LOOK_AHEAD) {
            return finding(BEYOND);
        }
        trial.becomes(woods);
        trial.runHours(n);
        return trial.at[bell];
    }

    public int when(int bell) {
        if (!isBell(bell)) {
            return finding(BEYOND);
        }
        trial.becomes(woods);
        int hours = trial.tillCaught(bell, LOOK_AHEAD);
        return hours < 0 ? finding(NONE) : hours;
    }

    public int still() {
        trial.becomes(woods);
        for (int h = 0; h <= LOOK_AHEAD; h++) {
            if (!trial.hourGoes()) {
                return h;
            }
        }
        return finding(NONE);
    }

    public int caught(int n) {
        if (n < 0 || n > LOOK_AHEAD) {
            return finding(BEYOND);
        }
        trial.becomes(woods);
        trial.runHours(n);
        return trial.caughtBells;
    }

    public int netFor(int bell) {
        if (!isBell(bell)) {
            return finding(BEYOND);
        }
        trial.becomes(woods);
        int without = trial.tillCaught(bell, HUNT_AHEAD);
        // A net where no bell comes to changes nothing, so only these cells need be tried.
        long trodden = trial.trod;
        int best = -1;
        int fewest = HUNT_AHEAD + 1;
        for (int c = 0; c < CELLS; c++) {
            if (woods.hasNet(c)) {
                continue;
            }
            int hours = without;
            if (holds(trodden, c)) {
                trial.becomes(woods);
                trial.setNet(c, true);
                hours = trial.tillCaught(bell, fewest - 1);
            }
            if (hours >= 0 && hours < fewest) {
                fewest = hours;
                best = c;
            }
        }
        return best < 0 ? finding(NONE) : best;
    }

    public int best(int n) {
        if (n < 0 || n > HUNT_AHEAD) {
            return finding(BEYOND);
        }
        trial.becomes(woods);
        trial.runHours(n);
        int without = Integer.bitCount(trial.caughtBells);
        // A net where no bell comes to changes nothing, so only these cells need be tried.
        long trodden = trial.trod;
        int best = -1;
        int most = -1;
        for (int c = 0; c < CELLS; c++) {
            if (woods.hasNet(c)) {
                continue;
            }
            int many = without;
            if (holds(trodden, c)) {
                trial.becomes(woods);
                trial.setNet(c, true);
                trial.runHours(n);
                many = Integer.bitCount(trial.caughtBells);
            }
            if (many > most) {
                most = many;
                best = c;
            }
        }
        return best < 0 ? finding(NONE) : best;
    }

    public int drive(int hunter, int bell) {
        if (!isHunter(hunter) || !isBell(bell)) {
            return finding(BEYOND);
        }
        int best = -1;
        int fewest = HUNT_AHEAD + 1;
        for (int c = 0; c < CELLS; c++) {
            trial.becomes(woods);
            trial.hunterAt[hunter] = c;
            int hours = trial.tillCaught(bell, fewest - 1);
            if (hours >= 0) {
                fewest = hours;
                best = c;
            }
        }
        return best < 0 ? finding(NONE) : best;
    }

    public int kindFor(int bell) {
        if (!isBell(bell)) {
            return finding(BEYOND);
        }
        int best = 0;
        int most = -1;
        for (int k = 0; k < KINDS; k++) {
            trial.becomes(woods);
            trial.kind[bell] = k;
            int hours = trial.tillCaught(bell, LOOK_AHEAD);
            int free = hours < 0 ? LOOK_AHEAD : hours;
            if (free > most) {
                most = free;
                best = k;
            }
        }
        return best;
    }

    // ---- sounds

    public int stands(int s, int w) {
        int fault = soundFault(s, w);
        if (fault != NO_FINDING) {
            return finding(fault);
        }
        return Long.bitCount(standingCells(sheets[s], w));
    }

    public int where(int s, int w) {
        int fault = soundFault(s, w);
        if (fault != NO_FINDING) {
            return finding(fault);
        }
        long standing = standingCells(sheets[s], w);
        for (int c = 0; c < CELLS; c++) {
            if (holds(standing, c)) {
                return c;
            }
        }
        return finding(NONE);
    }

    public int ear(int s, int w) {
        int fault = soundFault(s, w);
        if (fault != NO_FINDING) {
            return finding(fault);
        }
        long standing = standingCells(sheets[s], w);
        if (standing == 0L) {
            return finding(NONE);
        }
        int best = 0;
        int fewest = CELLS + 1;
        for (int c = 0; c < CELLS; c++) {
            int left = leftAtWorst(standing, c, w);
            if (left < fewest) {
                fewest = left;
                best = c;
            }
        }
        return best;
    }

    public int whose(int s) {
        // A sheet alone is asked here, so any weight that is allowed will do.
        int fault = soundFault(s, MOST_WEIGHT);
        if (fault != NO_FINDING) {
            return finding(fault);
        }
        int set = 0;
        for (int b = 0; b < woods.bells; b++) {
            if (woods.isFree(b) && sheets[s].tellsLoud(woods.weight[b], woods.at[b])) {
                set |= 1 << b;
            }
        }
        return set;
    }

    // ---- stocks, rings

    public int stock(int n, int c, int y) {
        if (!isStock(n) || c < 0 || c > MOST_CATCH || y < 0 || y > MOST_YEARS) {
            return finding(BEYOND);
        }
        return stockBehind(n, c, y);
    }

    public int lasts(int n, int y) {
        if (!isStock(n) || y < 1 || y > MOST_YEARS) {
            return finding(BEYOND);
        }
        // A greater catch never leaves a greater stock, and with none the stock is no less.
        int lasting = 0;
        int tooMuch = MOST_CATCH + 1;
        for (int step = 0; step < MOST_CATCH && tooMuch - lasting > 1; step++) {
            int middle = (lasting + tooMuch) / 2;
            if (stockBehind(n, middle, y) >= n) {
                lasting = middle;
            } else {
                tooMuch = middle;
            }
        }
        return lasting;
    }

    public int ring() {
        return Integer.bitCount(woods.greatestRing());
    }

    public int rings() {
        return woods.greatestRing();
    }

    public int peals() {
        int many = 0;
        for (int set = 1; set < 1 << woods.bells; set++) {
            if (woods.isRing(set)) {
                many++;
            }
        }
        return many;
    }

    public int wanted() {
        int there = woods.notesThere();
        int best = 0;
        int most = 0;
        for (int note = 0; note < NOTES; note++) {
            int run = longestRun(there | 1 << note);
            if (run > most) {
                most = run;
                best = note;
            }
        }
        return best;
    }

    public long changes(int n) {
        if (n < 0 || n > 20) {
            return finding(BEYOND);
        }
        long orders = 1L;
        for (int i = 2; i <= n; i++) {
            orders *= i;
        }
        return orders;
    }

    // ---- thunder

    public int thunder(int n) {
        if (n < 1 || n > 20) {
            return finding(BEYOND);
        }
        if (woods.bells == 0 || woods.hour + n > LAST_HOUR) {
            return finding(STATE);
        }
        for (int h = 0; h < n; h++) {
            woods.strike();
            woods.hourGoes();
        }
        return Integer.bitCount(woods.caughtBells);
    }

    public int seed(int v) {
        int was = woods.z;
        woods.z = v;
        return was;
    }

    // ---- texts

    public int feed(int bytes, int n) {
        if (n < 1 || n > 4) {
            return finding(BEYOND);
        }
        if (tape.size + n > MOST_BYTES) {
            return finding(FULL);
        }
        for (int i = n - 1; i >= 0; i--) {
            tape.append(bytes >>> 8 * i);
        }
        return tape.size;
    }

    public int wipe() {
        int had = tape.size;
        tape.size = 0;
        return had;
    }

    public int text() {
        // All items are read into the trial first, for one with a fault behind them changes nothing.
        trial.becomes(woods);
        int items = tape.readInto(trial);
        tape.size = 0;
        if (items >= 0) {
            woods.becomes(trial);
        }
        return items;
    }

    // ---- spots, sheets

    public int hold(int spot, int bell) {
        if (!isSpot(spot) || bell != -1 && !isBell(bell)) {
            return finding(BEYOND);
        }
        woods.spots[spot] = bell;
        return 1;
    }

    public int as(int spot, int kind) {
        if (!isSpot(spot) || !isKind(kind)) {
            return finding(BEYOND);
        }
        int bell = woods.spots[spot];
        if (!isBell(bell)) {
            return finding(MISSING);
        }
        return isUnder(woods.kind[bell], kind) ? bell : finding(KIND);
    }

    public int sheet(int s, int bits, int n) {
        if (!isSheet(s) || bits != 0 && bits != 8 && bits != 16 && bits != 32) {
            return finding(BEYOND);
        }
        if (n < 0) {
            return finding(SIZE);
        }
        if (n > MOST_NUMBERS) {
            return finding(BEYOND);
        }
        sheets[s].begin(bits, n);
        return sheets[s].size;
    }

    public int write(int s, int i, int v) {
        if (!isSheet(s)) {
            return finding(BEYOND);
        }
        if (sheets[s].isMissing()) {
            return finding(MISSING);
        }
        if (i < 0 || i >= sheets[s].size) {
            return finding(BEYOND);
        }
        sheets[s].put(i, v);
        return 1;
    }

    public int copy(int s, int from, int t, int to, int n) {
        if (!isSheet(s) || !isSheet(t)) {
            return finding(BEYOND);
        }
        Sheet source = sheets[s];
        Sheet target = sheets[t];
        if (source.isMissing() || target.isMissing()) {
            return finding(MISSING);
        }
        if (source.bits != target.bits) {
            return finding(KIND);
        }
        if (!source.hasFrom(from, n) || !target.hasFrom(to, n)) {
            return finding(BEYOND);
        }
        System.arraycopy(source.numbers, from, target.numbers, to, n);
        return n;
    }

    public int load(int s) {
        if (!isSheet(s)) {
            return finding(BEYOND);
        }
        Sheet sheet = sheets[s];
        if (sheet.isMissing()) {
            return finding(MISSING);
        }
        int came = 0;
        while (came < sheet.size && came < woods.bells && isNote(sheet.numbers[came])) {
            woods.note[came] = sheet.numbers[came];
            came++;
        }
        return came;
    }

    public int judge(int s) {
        if (!isSheet(s)) {
            return finding(BEYOND);
        }
        Sheet sheet = sheets[s];
        if (sheet.isMissing()) {
            return finding(MISSING);
        }
        for (int i = 0; i < sheet.size; i++) {
            int bell = sheet.numbers[i];
            // One that comes twice is not above the note of the one before it, nor are its followers.
            if (!isBell(bell) || i > 0 && !woods.followsInRing(sheet.numbers[i - 1], bell)) {
                return 1 + i;
            }
        }
        return 0;
    }

    // ---- images

    public int image() {
        kept.becomes(woods);
        anyKept = true;
        return 1;
    }

    public int undo() {
        if (!anyKept) {
            return finding(NONE);
        }
        woods.becomes(kept);
        return woods.hour;
    }

    public int tear() {
        boolean was = anyKept;
        anyKept = false;
        return was ? 1 : 0;
    }

    public int count(int what) {
        switch (what) {
            case 0:
                return woods.hour;
            case 1:
                return woods.bells;
            case 2:
                return Integer.bitCount(woods.caughtBells);
            case 3:
                return Long.bitCount(woods.nets);
            case 4:
                return woods.weightOf(-1);
            case 5:
                return tape.size;
            case 6:
                return woods.z;
            case 7:
                return woods.spotsHolding();
            default:
                return finding(BEYOND);
        }
    }

    public int status(int which) {
        if (which < -1 || which >= FINDINGS) {
            return finding(BEYOND);
        }
        if (which >= 0) {
            return told[which];
        }
        int all = 0;
        for (int f = 0; f < FINDINGS; f++) {
            all += told[f];
        }
        return all;
    }

    private int finding(int which) {
        if (which >= 0 && which < FINDINGS) {
            told[which]++;
        }
        return LOW - which;
    }

    private boolean isBell(int bell) {
        return bell >= 0 && bell < woods.bells;
    }

    private static boolean isCell(int cell) {
        return cell >= 0 && cell < CELLS;
    }

    private static boolean isHunter(int hunter) {
        return hunter >= 0 && hunter < HUNTERS;
    }

    private static boolean isKind(int kind) {
        return kind >= 0 && kind < KINDS;
    }

    private static boolean isNote(int note) {
        return note >= 0 && note < NOTES;
    }

    private static boolean isWeight(int weight) {
        return weight >= 1 && weight <= MOST_WEIGHT;
    }

    private static boolean isStock(int n) {
        return n >= 0 && n <= MOST_STOCK;
    }

    private static boolean isSpot(int spot) {
        return spot >= 0 && spot < SPOTS;
    }

    private static boolean isSheet(int s) {
        return s >= 0 && s < SHEETS;
    }

    private static boolean isTrait(int what) {
        return what >= 0 && what <= 4;
    }

    private static boolean suits(int what, int v) {
        switch (what) {
            case 0:
                return isKind(v);
            case 1:
                return isCell(v);
            case 2:
                return isNote(v);
            case 3:
                return isWeight(v);
            default:
                return v == 0 || v == 1;
        }
    }

    /** The first finding of a call that asks a sheet of ears, in the order that the calls tell. */
    private int soundFault(int s, int w) {
        if (!isSheet(s)) {
            return BEYOND;
        }
        if (sheets[s].isMissing()) {
            return MISSING;
        }
        if (!isWeight(w)) {
            return BEYOND;
        }
        return sheets[s].earsAreCells() ? NO_FINDING : STATE;
    }

    private static long standingCells(Sheet sheet, int w) {
        long standing = 0L;
        for (int c = 0; c < CELLS; c++) {
            if (sheet.tellsLoud(w, c)) {
                standing |= 1L << c;
            }
        }
        return standing;
    }

    private int leftAtWorst(long standing, int ear, int w) {
        int unheard = FARTHEST + 1;
        for (int g = 0; g <= unheard; g++) {
            groups[g] = 0;
        }
        int worst = 0;
        for (int c = 0; c < CELLS; c++) {
            if (holds(standing, c)) {
                int far = apart(c, ear);
                int group = loudness(w, far) > 0 ? far : unheard;
                groups[group]++;
                worst = Math.max(worst, groups[group]);
            }
        }
        return worst;
    }

    private static int stockBehind(int n, int c, int y) {
        int there = n;
        for (int year = 0; year < y; year++) {
            there -= Math.min(c, there);
            there = Math.min(there + there / 10, MOST_STOCK);
        }
        return there;
    }

    private static boolean holds(long set, int place) {
        return (set >>> place & 1L) == 1L;
    }

    private static int apart(int one, int other) {
        int rows = one / 8 - other / 8;
        int columns = one % 8 - other % 8;
        return (rows < 0 ? -rows : rows) + (columns < 0 ? -columns : columns);
    }

    private static int loudness(int weight, int far) {
        return Math.max(0, weight - 3 * far);
    }

    private static boolean isUnder(int kind, int over) {
        int k = kind;
        for (int step = 0; step < KINDS && k != over && k >= 0 && k < KINDS; step++) {
            k = KIND_ABOVE[k];
        }
        return k == over;
    }

    /** How many of these notes stand in a row, each by 1 or 2 above the one below it. */
    private static int longestRun(int notes) {
        int longest = 0;
        int run = 0;
        int last = -1;
        for (int note = 0; note < NOTES; note++) {
            if (holds(notes, note)) {
                run = run > 0 && note - last <= 2 ? run + 1 : 1;
                last = note;
                longest = Math.max(longest, run);
            }
        }
        return longest;
    }

    /** All that an image keeps. */
    private static final class Woods {
        private int hour;
        private long nets;
        private final int[] thickness;
        private final int[] hunterAt;
        private int mostFear;
        private int bells;
        private final int[] kind;
        private final int[] at;
        private final int[] note;
        private final int[] weight;
        private int caughtBells;
        private int z;
        private final int[] spots;
        /** Cells at which bells were behind some hour since these woods became as others. */
        private long trod;

        private Woods() {
            thickness = new int[CELLS];
            hunterAt = new int[HUNTERS];
            kind = new int[MOST_BELLS];
            at = new int[MOST_BELLS];
            note = new int[MOST_BELLS];
            weight = new int[MOST_BELLS];
            spots = new int[SPOTS];
            mostFear = 3;
            z = 1;
            for (int h = 0; h < HUNTERS; h++) {
                hunterAt[h] = -1;
            }
            for (int s = 0; s < SPOTS; s++) {
                spots[s] = -1;
            }
        }

        private void becomes(Woods other) {
            hour = other.hour;
            nets = other.nets;
            mostFear = other.mostFear;
            bells = other.bells;
            caughtBells = other.caughtBells;
            z = other.z;
            trod = 0L;
            System.arraycopy(other.thickness, 0, thickness, 0, CELLS);
            System.arraycopy(other.hunterAt, 0, hunterAt, 0, HUNTERS);
            System.arraycopy(other.kind, 0, kind, 0, MOST_BELLS);
            System.arraycopy(other.at, 0, at, 0, MOST_BELLS);
            System.arraycopy(other.note, 0, note, 0, MOST_BELLS);
            System.arraycopy(other.weight, 0, weight, 0, MOST_BELLS);
            System.arraycopy(other.spots, 0, spots, 0, SPOTS);
        }

        private boolean hasNet(int cell) {
            return holds(nets, cell);
        }

        private void setNet(int cell, boolean is) {
            nets = is ? nets | 1L << cell : nets & ~(1L << cell);
        }

        /** Asked only where there is room for one bell more. */
        private int addBell(int newKind, int cell) {
            int bell = bells;
            if (bell < MOST_BELLS) {
                kind[bell] = newKind;
                at[bell] = cell;
                note[bell] = 0;
                weight[bell] = 10;
                caughtBells &= ~(1 << bell);
                bells++;
            }
            return bell;
        }

        private boolean isFree(int bell) {
            return (caughtBells >>> bell & 1) == 0;
        }

        private int trait(int bell, int what) {
            switch (what) {
                case 0:
                    return kind[bell];
                case 1:
                    return at[bell];
                case 2:
                    return note[bell];
                case 3:
                    return weight[bell];
                default:
                    return isFree(bell) ? 0 : 1;
            }
        }

        private void setTrait(int bell, int what, int v) {
            switch (what) {
                case 0:
                    kind[bell] = v;
                    break;
                case 1:
                    at[bell] = v;
                    break;
                case 2:
                    note[bell] = v;
                    break;
                case 3:
                    weight[bell] = v;
                    break;
                default:
                    caughtBells = caughtBells & ~(1 << bell) | v << bell;
                    break;
            }
        }

        private int heardAt(int cell) {
            int loudest = 0;
            for (int b = 0; b < bells; b++) {
                if (isFree(b)) {
                    loudest = Math.max(loudest, loudness(weight[b], apart(at[b], cell)));
                }
            }
            return loudest;
        }

        private int bellsAt(int cell) {
            int many = 0;
            for (int b = 0; b < bells; b++) {
                if (at[b] == cell) {
                    many++;
                }
            }
            return many;
        }

        private int weightOf(int set) {
            int sum = 0;
            for (int b = 0; b < bells; b++) {
                if (holds(set, b)) {
                    sum += weight[b];
                }
            }
            return sum;
        }

        private int spotsHolding() {
            int many = 0;
            for (int s = 0; s < SPOTS; s++) {
                if (spots[s] >= 0) {
                    many++;
                }
            }
            return many;
        }

        private int worthFor(int bell, int cell) {
            int plain = 10 * fromHunters(cell) + 9 - thickness[cell];
            switch (kind[bell]) {
                case HERD:
                    return plain + HERD_REACH - nearestOther(bell, cell, HERD, HERD_REACH);
                case YOUNG:
                    return plain + HERD_REACH - nearestOther(bell, cell, HERD, HERD_REACH) + 2 * thickness[cell];
                case LONE:
                    return plain + nearestOther(bell, cell, BELL, 0);
                case TENOR:
                    return plain + nearestOther(bell, cell, BELL, 0) + 7 - cell / 8;
                case ELDEST:
                    return 2 * (plain + nearestOther(bell, cell, BELL, 0) + 7 - cell / 8);
                case TAME:
                    return plain - 2 * apart(cell, 0);
                default:
                    return plain;
            }
        }

        private int fromHunters(int cell) {
            int least = mostFear;
            for (int h = 0; h < HUNTERS; h++) {
                if (hunterAt[h] >= 0) {
                    least = Math.min(least, apart(cell, hunterAt[h]));
                }
            }
            return least;
        }

        /** How far a cell is from the nearest other free bell of a kind or of one under it. */
        private int nearestOther(int bell, int cell, int over, int ifThereIsNone) {
            int least = -1;
            for (int b = 0; b < bells; b++) {
                if (b != bell && isFree(b) && isUnder(kind[b], over)) {
                    int far = apart(cell, at[b]);
                    least = least < 0 || far < least ? far : least;
                }
            }
            return least < 0 ? ifThereIsNone : least;
        }

        private int nextCell(int bell) {
            int own = at[bell];
            int next = own;
            int most = worthFor(bell, own);
            for (int way = 0; way < 4; way++) {
                int cell = cellBeside(own, way);
                if (cell >= 0) {
                    int worth = worthFor(bell, cell);
                    if (worth > most) {
                        most = worth;
                        next = cell;
                    }
                }
            }
            return next;
        }

        private static int cellBeside(int cell, int way) {
            switch (way) {
                case 0:
                    return cell >= 8 ? cell - 8 : -1;
                case 1:
                    return cell % 8 < 7 ? cell + 1 : -1;
                case 2:
                    return cell < CELLS - 8 ? cell + 8 : -1;
                default:
                    return cell % 8 > 0 ? cell - 1 : -1;
            }
        }

        /** An hour goes by: whether it moved or caught a bell. */
        private boolean hourGoes() {
            boolean anyChange = false;
            for (int b = 0; b < bells; b++) {
                if (isFree(b)) {
                    int next = nextCell(b);
                    anyChange |= next != at[b];
                    at[b] = next;
                    trod |= 1L << next;
                    if (hasNet(next)) {
                        caughtBells |= 1 << b;
                        anyChange = true;
                    }
                }
            }
            hour = Math.min(hour + 1, LAST_HOUR);
            return anyChange;
        }

        private void runHours(int n) {
            // Behind an hour without a change all hours are alike.
            boolean anyChange = true;
            for (int h = 0; h < n && anyChange; h++) {
                anyChange = hourGoes();
            }
        }

        /** Behind how many hours, most at most, a bell is caught, -1 if it isn't. */
        private int tillCaught(int bell, int most) {
            boolean anyChange = true;
            for (int h = 0; h <= most && anyChange; h++) {
                if (!isFree(bell)) {
                    return h;
                }
                anyChange = h < most && hourGoes();
            }
            return -1;
        }

        private int draw() {
            z = z * 1103515245 + 12345;
            return z >>> 8;
        }

        private void strike() {
            if (bells < 1) {
                return;
            }
            int bell = draw() % bells;
            int cell = draw() % CELLS;
            if (isFree(bell)) {
                at[bell] = cell;
            }
        }

        private int notesThere() {
            int notes = 0;
            for (int b = 0; b < bells; b++) {
                notes |= 1 << note[b];
            }
            return notes;
        }

        private boolean isRing(int set) {
            int notes = 0;
            for (int b = 0; b < bells; b++) {
                if (holds(set, b)) {
                    if (holds(notes, note[b])) {
                        return false;
                    }
                    notes |= 1 << note[b];
                }
            }
            return longestRun(notes) == Integer.bitCount(set);
        }

        private int greatestRing() {
            int greatest = 0;
            for (int set = 1; set < 1 << bells; set++) {
                if (Integer.bitCount(set) > Integer.bitCount(greatest) && isRing(set)) {
                    greatest = set;
                }
            }
            return greatest;
        }

        private boolean followsInRing(int below, int above) {
            int step = note[above] - note[below];
            return step == 1 || step == 2;
        }
    }

    /** A row of numbers of so many bits; none if it is missing. */
    private static final class Sheet {
        private int bits;
        private int size;
        private final int[] numbers;

        private Sheet() {
            numbers = new int[MOST_NUMBERS];
        }

        private boolean isMissing() {
            return bits == 0;
        }

        private void begin(int newBits, int n) {
            bits = newBits;
            size = newBits == 0 ? 0 : n;
            for (int i = 0; i < MOST_NUMBERS; i++) {
                numbers[i] = 0;
            }
        }

        private void put(int i, int v) {
            if (bits == 8) {
                numbers[i] = (byte) v;
            } else if (bits == 16) {
                numbers[i] = (short) v;
            } else {
                numbers[i] = v;
            }
        }

        private boolean hasFrom(int from, int n) {
            return from >= 0 && n >= 0 && from <= size && n <= size - from;
        }

        private boolean earsAreCells() {
            for (int i = 0; i + 1 < size; i += 2) {
                if (!isCell(numbers[i])) {
                    return false;
                }
            }
            return true;
        }

        /** Whether a bell of this weight in this cell is as loud at all ears as the sheet tells. */
        private boolean tellsLoud(int weight, int cell) {
            for (int i = 0; i + 1 < size; i += 2) {
                if (loudness(weight, apart(cell, numbers[i])) != numbers[i + 1]) {
                    return false;
                }
            }
            return true;
        }
    }

    /** The tape, and how a text is read from it, token by token. */
    private static final class Tape {
        private static final int END = 0;
        private static final int WORD = 1;
        private static final int NUMBER = 2;
        private static final int SIGN = 3;
        private static final int NO_TOKEN = 4;
        private static final int TOO_MUCH = 1000;

        private final int[] bytes;
        private int size;
        private int token;
        private int start;
        private int behind;
        private int value;
        /** The place of the first fault, -1 as long as there is none. */
        private int fault;

        private Tape() {
            bytes = new int[MOST_BYTES];
        }

        private void append(int b) {
            if (size < MOST_BYTES) {
                bytes[size] = b & 255;
                size++;
            }
        }

        /** How many items are read into the woods, or -1 less the fault. */
        private int readInto(Woods woods) {
            fault = -1;
            behind = 0;
            advance();
            int items = 0;
            boolean more = true;
            // Each item takes a byte at least.
            for (int i = 0; i <= MOST_BYTES && more; i++) {
                readItem(woods);
                items++;
                more = fault < 0 && token == SIGN;
                if (more) {
                    advance();
                }
            }
            if (fault < 0 && token != END) {
                fault = start;
            }
            return fault < 0 ? items : -1 - fault;
        }

        private void advance() {
            start = behind;
            while (start < size && bytes[start] == ' ') {
                start++;
            }
            behind = start;
            int first = start < size ? bytes[start] : -1;
            if (first < 0) {
                token = END;
            } else if (first >= 'a' && first <= 'z') {
                token = WORD;
                while (behind < size && bytes[behind] >= 'a' && bytes[behind] <= 'z') {
                    behind++;
                }
            } else if (first >= '0' && first <= '9') {
                token = NUMBER;
                value = 0;
                while (behind < size && bytes[behind] >= '0' && bytes[behind] <= '9') {
                    value = value < TOO_MUCH ? value * 10 + bytes[behind] - '0' : TOO_MUCH;
                    behind++;
                }
            } else {
                token = first == ';' ? SIGN : NO_TOKEN;
                behind++;
            }
        }

        private boolean isWord(String word) {
            if (token != WORD || behind - start != word.length()) {
                return false;
            }
            for (int i = 0; i < word.length(); i++) {
                if (bytes[start + i] != word.charAt(i)) {
                    return false;
                }
            }
            return true;
        }

        private void readItem(Woods woods) {
            int kind = kindOfWord();
            if (kind >= 0) {
                readBell(woods, kind);
            } else if (isWord("net")) {
                readNet(woods);
            } else if (isWord("thick")) {
                readThick(woods);
            } else if (isWord("hunter")) {
                readHunter(woods);
            } else if (isWord("fear")) {
                readFear(woods);
            } else {
                fault = start;
            }
        }

        private int kindOfWord() {
            for (int k = 0; k < KINDS; k++) {
                if (isWord(wordOfKind(k))) {
                    return k;
                }
            }
            return -1;
        }

        private static String wordOfKind(int kind) {
            switch (kind) {
                case HERD:
                    return "herd";
                case LONE:
                    return "lone";
                case TENOR:
                    return "tenor";
                case ELDEST:
                    return "eldest";
                case TAME:
                    return "tame";
                case YOUNG:
                    return "young";
                default:
                    return "bell";
            }
        }

        private void readBell(Woods woods, int kind) {
            if (woods.bells >= MOST_BELLS) {
                fault = start;
                return;
            }
            advance();
            int cell = takePerhaps("at", 0, CELLS - 1, 0);
            int note = takePerhaps("note", 0, NOTES - 1, 0);
            int weight = takePerhaps("weight", 1, MOST_WEIGHT, 10);
            if (fault < 0) {
                int bell = woods.addBell(kind, cell);
                woods.note[bell] = note;
                woods.weight[bell] = weight;
            }
        }

        private void readNet(Woods woods) {
            advance();
            int cell = takeNumber(0, CELLS - 1);
            if (fault < 0) {
                woods.setNet(cell, true);
            }
        }

        private void readThick(Woods woods) {
            advance();
            int cell = takeNumber(0, CELLS - 1);
            int thickness = takeNumber(0, MOST_THICK);
            if (fault < 0) {
                woods.thickness[cell] = thickness;
            }
        }

        private void readHunter(Woods woods) {
            advance();
            int hunter = takeNumber(0, HUNTERS - 1);
            int cell = takePerhaps("at", 0, CELLS - 1, -1);
            if (fault < 0) {
                woods.hunterAt[hunter] = cell;
            }
        }

        private void readFear(Woods woods) {
            advance();
            int fear = takeNumber(0, MOST_FEAR);
            if (fault < 0) {
                woods.mostFear = fear;
            }
        }

        /** A number from least to most; with a fault, now or before, -1. */
        private int takeNumber(int least, int most) {
            if (fault >= 0) {
                return -1;
            }
            if (token != NUMBER || value < least || value > most) {
                fault = start;
                return -1;
            }
            int taken = value;
            advance();
            return taken;
        }

        private int takePerhaps(String word, int least, int most, int without) {
            if (fault >= 0 || !isWord(word)) {
                return without;
            }
            advance();
            return takeNumber(least, most);
        }
    }
}
