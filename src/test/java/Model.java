import java.math.BigInteger;
import java.util.ArrayList;
import java.util.HashMap;
import java.util.List;
import java.util.Map;
import java.util.TreeSet;

/** The document once more, slow and by another way, to compare runs of calls with. */
final class Model {
    private static final String[] WORDS = {"bell", "herd", "lone", "tenor", "eldest", "tame", "young"};
    private static final String[] FINDINGS = {"BEYOND", "FULL", "KIND", "NONE", "STATE", "MISSING", "SIZE"};

    private static final class Finding extends RuntimeException {
        private static final long serialVersionUID = 1L;
        final int which;

        Finding(String name) {
            super(name, null, false, false);
            which = List.of(FINDINGS).indexOf(name);
        }
    }

    private static final class Fault extends RuntimeException {
        private static final long serialVersionUID = 1L;
        final int place;

        Fault(int place) {
            super("fault", null, false, false);
            this.place = place;
        }
    }

    private static final class Bell {
        int kind;
        int cell;
        int note = 0;
        int weight = 10;
        boolean caught = false;

        Bell(int kind, int cell) {
            this.kind = kind;
            this.cell = cell;
        }

        Bell twin() {
            Bell b = new Bell(kind, cell);
            b.note = note;
            b.weight = weight;
            b.caught = caught;
            return b;
        }

        boolean isHerd() {
            return kind == 1 || kind == 6;
        }
    }

    private static final class State {
        int hour = 0;
        boolean[] net = new boolean[64];
        int[] thick = new int[64];
        Integer[] hunter = new Integer[4];
        int fear = 3;
        int z = 1;
        List<Bell> bells = new ArrayList<>();
        Integer[] spot = new Integer[10];

        State twin() {
            State s = new State();
            s.hour = hour;
            s.net = net.clone();
            s.thick = thick.clone();
            s.hunter = hunter.clone();
            s.fear = fear;
            s.z = z;
            s.spot = spot.clone();
            for (Bell b : bells) {
                s.bells.add(b.twin());
            }
            return s;
        }

        int worth(int number, int cell) {
            Bell bell = bells.get(number);
            int near = fear;
            for (Integer h : hunter) {
                near = h == null ? near : Math.min(near, apart(h, cell));
            }
            int worth = near * 10 + (9 - thick[cell]);
            Integer toHerd = null;
            Integer toAny = null;
            for (Bell other : bells) {
                if (other != bell && !other.caught) {
                    int far = apart(other.cell, cell);
                    toAny = toAny == null ? far : Math.min(toAny, far);
                    if (other.isHerd()) {
                        toHerd = toHerd == null ? far : Math.min(toHerd, far);
                    }
                }
            }
            int herd = worth + (toHerd == null ? 0 : Math.max(20 - toHerd, 0));
            int lone = worth + (toAny == null ? 0 : toAny);
            int tenor = lone + 7 - cell / 8;
            int[] worths = {worth, herd, lone, tenor, tenor * 2, worth - 2 * apart(0, cell), herd + 2 * thick[cell]};
            return worths[bell.kind];
        }

        int next(int number) {
            int own = bells.get(number).cell;
            int row = own / 8;
            int column = own % 8;
            List<Integer> cells = new ArrayList<>(List.of(own));
            int[][] ways = {{-1, 0}, {0, 1}, {1, 0}, {0, -1}};
            for (int[] way : ways) {
                int r = row + way[0];
                int c = column + way[1];
                if (r >= 0 && r < 8 && c >= 0 && c < 8) {
                    cells.add(r * 8 + c);
                }
            }
            int next = own;
            for (int c : cells) {
                if (worth(number, c) > worth(number, next)) {
                    next = c;
                }
            }
            return next;
        }

        void hourGoes() {
            for (int b = 0; b < bells.size(); b++) {
                Bell bell = bells.get(b);
                if (!bell.caught) {
                    bell.cell = next(b);
                    bell.caught = net[bell.cell];
                }
            }
            hour++;
        }

        State behind(int hours) {
            State s = twin();
            for (int h = 0; h < hours; h++) {
                s.hourGoes();
            }
            return s;
        }

        int caughtSet() {
            int set = 0;
            for (int b = 0; b < bells.size(); b++) {
                set |= bells.get(b).caught ? 1 << b : 0;
            }
            return set;
        }

        /** Behind how many hours a bell is caught; more than most if it isn't. */
        int hoursTill(int bell, int most) {
            State s = twin();
            for (int h = 0; h <= most; h++) {
                if (s.bells.get(bell).caught) {
                    return h;
                }
                s.hourGoes();
            }
            return most + 1;
        }
    }

    private State state = new State();
    private State image = null;
    private byte[] tape = new byte[0];
    private final int[][] sheet = new int[4][];
    private final int[] bits = new int[4];
    private final int[] told = new int[7];

    /** The answer to a call by the name of its method. */
    long answer(String name, int[] a) {
        try {
            return answered(name, a);
        } catch (Finding f) {
            told[f.which]++;
            return -1000001 - f.which;
        }
    }

    private static int apart(int a, int b) {
        return Math.abs(a / 8 - b / 8) + Math.abs(a % 8 - b % 8);
    }

    private static void in(int v, int least, int most) {
        if (v < least || v > most) {
            throw new Finding("BEYOND");
        }
    }

    private static void not(boolean is, String finding) {
        if (is) {
            throw new Finding(finding);
        }
    }

    private void isBell(int b) {
        in(b, 0, state.bells.size() - 1);
    }

    private long answered(String name, int[] a) {
        switch (name) {
            case "net": case "thick": case "cell": case "hunter": case "fear":
                return woods(name, a);
            case "bell": case "of": case "change": case "worth": case "loud":
                return bells(name, a);
            case "go": case "now": case "thunder": case "seed":
                return hours(name, a);
            case "ahead": case "when": case "still": case "caught": case "kindFor":
                return toCome(name, a);
            case "netFor": case "best": case "drive":
                return hunts(name, a);
            case "stands": case "where": case "ear": case "whose":
                return sounds(name, a);
            case "stock": case "lasts": case "changes":
                return numbers(name, a);
            case "ring": case "rings": case "peals": case "wanted":
                return ringsOf(name);
            case "feed": case "wipe": case "text":
                return texts(name, a);
            case "hold": case "as":
                return spots(name, a);
            case "sheet": case "write": case "copy": case "load": case "judge":
                return sheets(name, a);
            default:
                return images(name, a);
        }
    }

    private long woods(String name, int[] a) {
        if (name.equals("fear")) {
            in(a[0], 0, 9);
            int was = state.fear;
            state.fear = a[0];
            return was;
        }
        if (name.equals("hunter")) {
            in(a[0], 0, 3);
            in(a[1], -1, 63);
            Integer was = state.hunter[a[0]];
            state.hunter[a[0]] = a[1] < 0 ? null : Integer.valueOf(a[1]);
            return was == null ? -1 : was;
        }
        in(a[0], 0, 63);
        if (name.equals("net")) {
            in(a[1], 0, 1);
            boolean was = state.net[a[0]];
            state.net[a[0]] = a[1] == 1;
            return was == (a[1] == 1) ? 0 : 1;
        }
        if (name.equals("thick")) {
            in(a[1], 0, 9);
            int was = state.thick[a[0]];
            state.thick[a[0]] = a[1];
            return was;
        }
        in(a[1], 0, 3);
        int heard = 0;
        int there = 0;
        for (Bell b : state.bells) {
            heard = b.caught ? heard : Math.max(heard, b.weight - 3 * apart(b.cell, a[0]));
            there += b.cell == a[0] ? 1 : 0;
        }
        int[] told = {state.net[a[0]] ? 1 : 0, state.thick[a[0]], heard, there};
        return told[a[1]];
    }

    private int trait(int b, int what) {
        Bell bell = state.bells.get(b);
        int[] traits = {bell.kind, bell.cell, bell.note, bell.weight, bell.caught ? 1 : 0};
        return traits[what];
    }

    private long bells(String name, int[] a) {
        if (name.equals("bell")) {
            in(a[0], 0, 6);
            in(a[1], 0, 63);
            not(state.bells.size() == 8, "FULL");
            state.bells.add(new Bell(a[0], a[1]));
            return state.bells.size() - 1;
        }
        isBell(a[0]);
        Bell bell = state.bells.get(a[0]);
        if (name.equals("of")) {
            in(a[1], 0, 6);
            return a[1] == 5 ? state.next(a[0]) : a[1] == 6 ? state.worth(a[0], bell.cell) : trait(a[0], a[1]);
        }
        if (name.equals("change")) {
            in(a[1], 0, 4);
            int[][] ends = {{0, 6}, {0, 63}, {0, 11}, {1, 99}, {0, 1}};
            in(a[2], ends[a[1]][0], ends[a[1]][1]);
            int was = trait(a[0], a[1]);
            bell.kind = a[1] == 0 ? a[2] : bell.kind;
            bell.cell = a[1] == 1 ? a[2] : bell.cell;
            bell.note = a[1] == 2 ? a[2] : bell.note;
            bell.weight = a[1] == 3 ? a[2] : bell.weight;
            bell.caught = a[1] == 4 ? a[2] == 1 : bell.caught;
            return was;
        }
        in(a[1], 0, 63);
        return name.equals("worth") ? state.worth(a[0], a[1]) : Math.max(0, bell.weight - 3 * apart(bell.cell, a[1]));
    }

    private int weight(boolean caughtAlone) {
        int sum = 0;
        for (Bell b : state.bells) {
            sum += b.caught || !caughtAlone ? b.weight : 0;
        }
        return sum;
    }

    private int nets() {
        int many = 0;
        for (boolean n : state.net) {
            many += n ? 1 : 0;
        }
        return many;
    }

    private int draw() {
        BigInteger two32 = BigInteger.ONE.shiftLeft(32);
        BigInteger z = BigInteger.valueOf(state.z).multiply(BigInteger.valueOf(1103515245L)).add(BigInteger.valueOf(12345)).mod(two32);
        state.z = z.intValue();
        return z.divide(BigInteger.valueOf(256)).intValue();
    }

    private long hours(String name, int[] a) {
        switch (name) {
            case "seed": {
                int was = state.z;
                state.z = a[0];
                return was;
            }
            case "now":
                in(a[0], 0, 4);
                return new int[] {state.hour, state.caughtSet(), nets(), state.fear, weight(true)}[a[0]];
            case "go":
                in(a[0], 1, 24);
                not(state.hour + a[0] > 99999, "STATE");
                state = state.behind(a[0]);
                return Integer.bitCount(state.caughtSet());
            default:
                in(a[0], 1, 20);
                not(state.bells.isEmpty() || state.hour + a[0] > 99999, "STATE");
                for (int h = 0; h < a[0]; h++) {
                    Bell bell = state.bells.get(draw() % state.bells.size());
                    int cell = draw() % 64;
                    bell.cell = bell.caught ? bell.cell : cell;
                    state.hourGoes();
                }
                return Integer.bitCount(state.caughtSet());
        }
    }

    private long toCome(String name, int[] a) {
        if (name.equals("still")) {
            State s = state.twin();
            for (int h = 0; h <= 60; h++) {
                State then = s.behind(1);
                boolean same = then.caughtSet() == s.caughtSet();
                for (int b = 0; b < s.bells.size(); b++) {
                    same = same && s.bells.get(b).cell == then.bells.get(b).cell;
                }
                if (same) {
                    return h;
                }
                s = then;
            }
            throw new Finding("NONE");
        }
        if (name.equals("caught")) {
            in(a[0], 0, 60);
            return state.behind(a[0]).caughtSet();
        }
        isBell(a[0]);
        if (name.equals("ahead")) {
            in(a[1], 0, 60);
            return state.behind(a[1]).bells.get(a[0]).cell;
        }
        if (name.equals("when")) {
            int hours = state.hoursTill(a[0], 60);
            not(hours > 60, "NONE");
            return hours;
        }
        int best = 0;
        int[] free = new int[7];
        for (int k = 0; k < 7; k++) {
            State s = state.twin();
            s.bells.get(a[0]).kind = k;
            free[k] = s.hoursTill(a[0], 59);
            best = free[k] > free[best] ? k : best;
        }
        return best;
    }

    private long hunts(String name, int[] a) {
        if (name.equals("drive")) {
            in(a[0], 0, 3);
            isBell(a[1]);
        } else if (name.equals("netFor")) {
            isBell(a[0]);
        } else {
            in(a[0], 0, 20);
        }
        // The fewer the better, so most caught ones are told below 0.
        int[] score = new int[64];
        int least = Integer.MAX_VALUE;
        for (int c = 0; c < 64; c++) {
            State s = state.twin();
            score[c] = Integer.MAX_VALUE;
            if (name.equals("drive")) {
                s.hunter[a[0]] = c;
                int hours = s.hoursTill(a[1], 20);
                score[c] = hours > 20 ? Integer.MAX_VALUE : hours;
            } else if (!state.net[c]) {
                s.net[c] = true;
                int hours = name.equals("best") ? 0 : s.hoursTill(a[0], 20);
                score[c] = name.equals("best") ? -Integer.bitCount(s.behind(a[0]).caughtSet())
                    : hours > 20 ? Integer.MAX_VALUE : hours;
            }
            least = Math.min(least, score[c]);
        }
        not(least == Integer.MAX_VALUE, "NONE");
        int c = 0;
        while (score[c] != least) {
            c++;
        }
        return c;
    }

    private boolean toldSo(int s, int weight, int cell) {
        for (int i = 0; i < sheet[s].length / 2; i++) {
            if (Math.max(0, weight - 3 * apart(cell, sheet[s][2 * i])) != sheet[s][2 * i + 1]) {
                return false;
            }
        }
        return true;
    }

    private long sounds(String name, int[] a) {
        in(a[0], 0, 3);
        not(sheet[a[0]] == null, "MISSING");
        if (!name.equals("whose")) {
            in(a[1], 1, 99);
        }
        for (int i = 0; i < sheet[a[0]].length / 2; i++) {
            not(sheet[a[0]][2 * i] < 0 || sheet[a[0]][2 * i] > 63, "STATE");
        }
        if (name.equals("whose")) {
            int set = 0;
            for (int b = 0; b < state.bells.size(); b++) {
                Bell bell = state.bells.get(b);
                set += !bell.caught && toldSo(a[0], bell.weight, bell.cell) ? 1 << b : 0;
            }
            return set;
        }
        List<Integer> cells = new ArrayList<>();
        for (int c = 0; c < 64; c++) {
            if (toldSo(a[0], a[1], c)) {
                cells.add(c);
            }
        }
        if (name.equals("stands")) {
            return cells.size();
        }
        not(cells.isEmpty(), "NONE");
        return name.equals("where") ? cells.get(0) : earMore(cells, a[1]);
    }

    private static int earMore(List<Integer> cells, int weight) {
        int best = -1;
        int least = 65;
        for (int e = 0; e < 64; e++) {
            Map<Integer, Integer> left = new HashMap<>();
            int worst = 0;
            for (int c : cells) {
                worst = Math.max(worst, left.merge(Math.max(0, weight - 3 * apart(c, e)), 1, Integer::sum));
            }
            if (worst < least) {
                least = worst;
                best = e;
            }
        }
        return best;
    }

    private static int stock(int n, int c, int y) {
        return y == 0 ? n : stock(Math.min(9999, (n - Math.min(n, c)) * 11 / 10), c, y - 1);
    }

    private long numbers(String name, int[] a) {
        if (name.equals("changes")) {
            in(a[0], 0, 20);
            BigInteger orders = BigInteger.ONE;
            for (int i = 1; i <= a[0]; i++) {
                orders = orders.multiply(BigInteger.valueOf(i));
            }
            return orders.longValueExact();
        }
        in(a[0], 0, 9999);
        if (name.equals("stock")) {
            in(a[1], 0, 999);
            in(a[2], 0, 99);
            return stock(a[0], a[1], a[2]);
        }
        in(a[1], 1, 99);
        int c = 999;
        while (stock(a[0], c, a[1]) < a[0]) {
            c--;
        }
        return c;
    }

    /** How great a ring these notes are, 0 if they are none. */
    private static int ringSize(List<Integer> notes) {
        TreeSet<Integer> unlike = new TreeSet<>(notes);
        for (int note : unlike) {
            Integer below = unlike.lower(note);
            if (below != null && note - below > 2) {
                return 0;
            }
        }
        return unlike.size() == notes.size() ? notes.size() : 0;
    }

    private static int[] ringSizes(List<Integer> notes) {
        int[] sizes = new int[1 << notes.size()];
        for (int set = 0; set < sizes.length; set++) {
            List<Integer> some = new ArrayList<>();
            for (int b = 0; b < notes.size(); b++) {
                if ((set & 1 << b) != 0) {
                    some.add(notes.get(b));
                }
            }
            sizes[set] = ringSize(some);
        }
        return sizes;
    }

    private static int greatest(int[] sizes) {
        int best = 0;
        for (int set = 0; set < sizes.length; set++) {
            best = sizes[set] > sizes[best] ? set : best;
        }
        return best;
    }

    private long ringsOf(String name) {
        List<Integer> notes = new ArrayList<>();
        for (Bell b : state.bells) {
            notes.add(b.note);
        }
        int[] sizes = ringSizes(notes);
        int best = greatest(sizes);
        switch (name) {
            case "ring":
                return sizes[best];
            case "rings":
                return best;
            case "peals": {
                int many = 0;
                for (int size : sizes) {
                    many += size > 0 ? 1 : 0;
                }
                return many;
            }
            default: {
                int wanted = -1;
                int most = -1;
                for (int note = 0; note < 12; note++) {
                    List<Integer> more = new ArrayList<>(notes);
                    more.add(note);
                    int[] then = ringSizes(more);
                    int size = then[greatest(then)];
                    if (size > most) {
                        most = size;
                        wanted = note;
                    }
                }
                return wanted;
            }
        }
    }

    private long texts(String name, int[] a) {
        int had = tape.length;
        if (name.equals("wipe")) {
            tape = new byte[0];
            return had;
        }
        if (name.equals("feed")) {
            in(a[1], 1, 4);
            not(had + a[1] > 120, "FULL");
            byte[] more = java.util.Arrays.copyOf(tape, had + a[1]);
            byte[] four = java.nio.ByteBuffer.allocate(4).putInt(a[0]).array();
            System.arraycopy(four, 4 - a[1], more, had, a[1]);
            tape = more;
            return tape.length;
        }
        String s = new String(tape, java.nio.charset.StandardCharsets.ISO_8859_1);
        tape = new byte[0];
        try {
            State read = state.twin();
            int items = new Reader(s).read(read);
            state = read;
            return items;
        } catch (Fault f) {
            return -1 - f.place;
        }
    }

    private static final class Reader {
        private final List<String> tokens = new ArrayList<>();
        private final List<Integer> places = new ArrayList<>();
        private int i = 0;

        Reader(String s) {
            java.util.regex.Matcher m = java.util.regex.Pattern
                .compile("[a-z]+|[0-9]+|[^ ]", java.util.regex.Pattern.DOTALL).matcher(s);
            while (m.find()) {
                tokens.add(m.group());
                places.add(m.start());
            }
            tokens.add("");
            places.add(s.length());
        }

        int read(State s) {
            int items = 0;
            do {
                item(s);
                items++;
            } while (perhaps(";"));
            if (!tokens.get(i).isEmpty()) {
                throw fault();
            }
            return items;
        }

        private Fault fault() {
            return new Fault(places.get(i));
        }

        private boolean perhaps(String token) {
            boolean is = tokens.get(i).equals(token);
            i += is ? 1 : 0;
            return is;
        }

        private int number(int least, int most) {
            String t = tokens.get(i);
            if (!t.matches("[0-9]+") || new BigInteger(t).compareTo(BigInteger.valueOf(most)) > 0
                || Integer.parseInt(t) < least) {
                throw fault();
            }
            i++;
            return Integer.parseInt(t);
        }

        private void item(State s) {
            int kind = List.of(WORDS).indexOf(tokens.get(i));
            if (kind >= 0) {
                if (s.bells.size() == 8) {
                    throw fault();
                }
                i++;
                Bell bell = new Bell(kind, perhaps("at") ? number(0, 63) : 0);
                bell.note = perhaps("note") ? number(0, 11) : 0;
                bell.weight = perhaps("weight") ? number(1, 99) : 10;
                s.bells.add(bell);
            } else if (perhaps("net")) {
                s.net[number(0, 63)] = true;
            } else if (perhaps("thick")) {
                int cell = number(0, 63);
                s.thick[cell] = number(0, 9);
            } else if (perhaps("hunter")) {
                int hunter = number(0, 3);
                s.hunter[hunter] = perhaps("at") ? Integer.valueOf(number(0, 63)) : null;
            } else if (perhaps("fear")) {
                s.fear = number(0, 9);
            } else {
                throw fault();
            }
        }
    }

    private long spots(String name, int[] a) {
        in(a[0], 0, 9);
        if (name.equals("hold")) {
            in(a[1], -1, state.bells.size() - 1);
            state.spot[a[0]] = a[1] < 0 ? null : Integer.valueOf(a[1]);
            return 1;
        }
        in(a[1], 0, 6);
        not(state.spot[a[0]] == null, "MISSING");
        String[] over = {"0", "10", "20", "320", "4320", "50", "610"};
        not(over[state.bells.get(state.spot[a[0]]).kind].indexOf('0' + a[1]) < 0, "KIND");
        return state.spot[a[0]];
    }

    private long sheets(String name, int[] a) {
        in(a[0], 0, 3);
        if (name.equals("sheet")) {
            not(!List.of(0, 8, 16, 32).contains(a[1]), "BEYOND");
            not(a[2] < 0, "SIZE");
            in(a[2], 0, 40);
            bits[a[0]] = a[1];
            sheet[a[0]] = a[1] == 0 ? null : new int[a[2]];
            return a[1] == 0 ? 0 : a[2];
        }
        if (name.equals("copy")) {
            in(a[2], 0, 3);
        }
        int[] s = sheet[a[0]];
        not(s == null, "MISSING");
        switch (name) {
            case "write": {
                in(a[1], 0, s.length - 1);
                int away = 32 - bits[a[0]];
                s[a[1]] = a[2] << away >> away;
                return 1;
            }
            case "copy": {
                int[] t = sheet[a[2]];
                not(t == null, "MISSING");
                not(bits[a[0]] != bits[a[2]], "KIND");
                not(a[1] < 0 || a[3] < 0 || a[4] < 0, "BEYOND");
                not((long) a[1] + a[4] > s.length || (long) a[3] + a[4] > t.length, "BEYOND");
                int[] were = s.clone();
                for (int i = 0; i < a[4]; i++) {
                    t[a[3] + i] = were[a[1] + i];
                }
                return a[4];
            }
            case "load": {
                int came = 0;
                for (int i = 0; i < s.length && i < state.bells.size() && s[i] >= 0 && s[i] <= 11; i++) {
                    state.bells.get(i).note = s[i];
                    came++;
                }
                return came;
            }
            default: {
                TreeSet<Integer> before = new TreeSet<>();
                for (int i = 0; i < s.length; i++) {
                    if (s[i] < 0 || s[i] >= state.bells.size() || !before.add(s[i])) {
                        return 1 + i;
                    }
                    int note = state.bells.get(s[i]).note;
                    int last = i == 0 ? note - 1 : state.bells.get(s[i - 1]).note;
                    if (note - last != 1 && note - last != 2) {
                        return 1 + i;
                    }
                }
                return 0;
            }
        }
    }

    private long images(String name, int[] a) {
        switch (name) {
            case "image":
                image = state.twin();
                return 1;
            case "undo":
                not(image == null, "NONE");
                state = image.twin();
                return state.hour;
            case "tear": {
                boolean was = image != null;
                image = null;
                return was ? 1 : 0;
            }
            case "count": {
                in(a[0], 0, 7);
                int held = 0;
                for (Integer s : state.spot) {
                    held += s == null ? 0 : 1;
                }
                return new int[] {state.hour, state.bells.size(), Integer.bitCount(state.caughtSet()), nets(),
                    weight(false), tape.length, state.z, held}[a[0]];
            }
            default: {
                in(a[0], -1, 6);
                int all = 0;
                for (int t : told) {
                    all += t;
                }
                return a[0] < 0 ? all : told[a[0]];
            }
        }
    }
}
