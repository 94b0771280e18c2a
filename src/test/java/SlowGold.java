import java.util.ArrayList;
import java.util.HashMap;
import java.util.List;
import java.util.Map;

/**
 * The document again, in the slowest and plainest way: every row, every set, every cell is tried.
 * It shares nothing with the class that it judges but the constants.
 */
final class SlowGold {
    private static final int NONE = GoldByEar.NONE;
    private static final int UNKNOWN = GoldByEar.UNKNOWN;
    private static final int OUTSIDE = GoldByEar.OUTSIDE;
    private static final int NOT = GoldByEar.NOT;
    private static final int FULL = GoldByEar.FULL;

    private record Lump(int x, int y, int pitch, int size) { }

    private record Hearer(int x, int y, int ear) { }

    private record State(int wind, int noise, int hours, int digger, int out, List<Integer> places) { }

    private record Image(State state, long seed) { }

    private record Heard(int cell, int pitch, int loud) { }

    private record Entry(int hearer, int set) { }

    private record Token(int at, boolean isNumber, String letters) { }

    private record Spot(int cell, int size) { }

    private static final class Fault extends Exception {
        private static final long serialVersionUID = 1L;
        final int kind;
        final int at;

        Fault(int kind, int at) {
            this.kind = kind;
            this.at = at;
        }
    }

    private final StringBuilder text = new StringBuilder();
    private int w = 0;
    private int h = 0;
    private int e = 0;
    private List<Lump> lumps = new ArrayList<>();
    private List<Hearer> hearers = new ArrayList<>();
    private State now = new State(0, 5, 0, 0, 0, List.of());
    private final List<State> past = new ArrayList<>();
    private final Map<Integer, Image> images = new HashMap<>();
    private final List<Heard> hearings = new ArrayList<>();
    private final List<Entry> book = new ArrayList<>();
    private long seed = 0;
    private int fault = NONE;

    // ---- the text

    int feed(int letter) {
        if (letter < 0 || letter > 255) return OUTSIDE;
        if (text.length() == 230) return FULL;
        text.append((char) letter);
        return text.length();
    }

    private static List<Token> tokens(String s) {
        List<Token> all = new ArrayList<>();
        int k = 0;
        while (k < s.length()) {
            int from = k;
            while (k < s.length() && "0123456789".indexOf(s.charAt(k)) >= 0) k++;
            if (k > from) all.add(new Token(from, true, s.substring(from, k)));
            else {
                if (s.charAt(k) != ' ') all.add(new Token(k, false, s.substring(k, k + 1)));
                k++;
            }
        }
        all.add(new Token(s.length(), false, "the end"));
        return all;
    }

    private static int number(Token t, int low, int high) throws Fault {
        if (!t.isNumber) throw new Fault(1, t.at);
        if (t.letters.length() > 3) throw new Fault(2, t.at);
        int v = Integer.parseInt(t.letters);
        if (v < low || v > high) throw new Fault(2, t.at);
        return v;
    }

    private static void word(Token t, String want) throws Fault {
        if (!t.letters.equals(want)) throw new Fault(1, t.at);
    }

    int valley() {
        List<Token> t = tokens(text.toString());
        text.setLength(0);
        int width = 0;
        int height = 0;
        int wall = 0;
        int noise = NONE;
        List<Lump> ls = new ArrayList<>();
        List<Hearer> hs = new ArrayList<>();
        try {
            int k = 0;
            while (k < t.size() - 1) {
                Token a = t.get(k);
                if (k == 0) word(a, "g");
                if (a.letters.equals("g")) {
                    if (k > 0) throw new Fault(3, a.at);
                    width = number(t.get(1), 1, 6);
                    height = number(t.get(2), 1, 6);
                    wall = number(t.get(3), 0, 1);
                    k = 4;
                } else if (a.letters.equals("l")) {
                    if (ls.size() == 7) throw new Fault(3, a.at);
                    int x = number(t.get(k + 1), 0, width - 1);
                    int y = number(t.get(k + 2), 0, height - 1);
                    for (Lump l : ls) if (l.x == x && l.y == y) throw new Fault(4, t.get(k + 2).at);
                    int p = number(t.get(k + 3), 0, 11);
                    ls.add(new Lump(x, y, p, number(t.get(k + 4), 1, 9)));
                    k += 5;
                } else if (a.letters.equals("h")) {
                    if (hs.size() == 4) throw new Fault(3, a.at);
                    int x = number(t.get(k + 1), 0, width - 1);
                    int y = number(t.get(k + 2), 0, height - 1);
                    hs.add(new Hearer(x, y, number(t.get(k + 3), 0, 2)));
                    k += 4;
                } else if (a.letters.equals("n")) {
                    if (noise != NONE) throw new Fault(3, a.at);
                    noise = number(t.get(k + 1), 0, 99);
                    k += 2;
                } else throw new Fault(1, a.at);
                word(t.get(k), ";");
                k++;
            }
        } catch (Fault f) {
            fault = f.at;
            return -10 - f.kind;
        }
        fault = NONE;
        w = width;
        h = height;
        e = wall;
        lumps = ls;
        hearers = hs;
        List<Integer> places = new ArrayList<>();
        for (Hearer one : hs) places.add(one.y * w + one.x);
        now = new State(0, noise == NONE ? 5 : noise, 0, 0, 0, places);
        past.clear();
        images.clear();
        hearings.clear();
        book.clear();
        return lumps.size();
    }

    int fault() {
        return fault;
    }

    private boolean isCell(int c) {
        return c >= 0 && c < w * h;
    }

    private boolean isLump(int l) {
        return l >= 0 && l < lumps.size();
    }

    private boolean isHearer(int k) {
        return k >= 0 && k < hearers.size();
    }

    private static boolean isPitch(int p) {
        return p >= 0 && p <= 11;
    }

    private boolean isOut(int l) {
        return (now.out & 1 << l) != 0;
    }

    int told(int what) {
        if (what < 0 || what > 14) return OUTSIDE;
        int gold = 0;
        for (int l = 0; l < lumps.size(); l++) if (isOut(l)) gold += lumps.get(l).size;
        int[] all = {w, h, e, lumps.size(), hearers.size(), text.length(), now.wind, now.noise, now.hours,
            now.digger, now.out, gold, hearings.size(), book.size(), past.size()};
        return all[what];
    }

    int lump(int l, int what) {
        if (!isLump(l)) return UNKNOWN;
        if (what < 0 || what > 3) return OUTSIDE;
        Lump a = lumps.get(l);
        return new int[] {a.y * w + a.x, a.pitch, a.size, isOut(l) ? 1 : 0}[what];
    }

    int hearer(int k, int what) {
        if (!isHearer(k)) return UNKNOWN;
        if (what < 0 || what > 3) return OUTSIDE;
        int c = now.places.get(k);
        int ear = hearers.get(k).ear;
        int hears = hears(ear, c, now.noise, true, now.out);
        return new int[] {c, ear, hears, hears & ~hears(ear, c, now.noise, false, now.out)}[what];
    }

    // ---- sound

    private int straight(Lump a, int cell) {
        int x = cell % w;
        int y = cell / w;
        int v = 10 * a.size / (1 + Math.abs(x - a.x) + Math.abs(y - a.y));
        boolean behind = now.wind == 1 && x > a.x || now.wind == 2 && y > a.y
            || now.wind == 3 && x < a.x || now.wind == 4 && y < a.y;
        return behind ? v + v : v;
    }

    private int echo(Lump a, int cell) {
        if (e == 0) return 0;
        int x = cell % w;
        int y = cell / w;
        // The mirrored lump stands as far behind the wall as the lump before it.
        int mirrored = w + (w - 1 - a.x);
        return 10 * a.size / (1 + (mirrored - x) + Math.abs(y - a.y)) / 2;
    }

    private int hears(int ear, int cell, int noise, boolean echoes, int out) {
        int set = 0;
        for (int p = 0; p <= 11; p++) {
            int v = 0;
            for (int l = 0; l < lumps.size(); l++) {
                Lump a = lumps.get(l);
                if (a.pitch != p || (out & 1 << l) != 0) continue;
                if (ear == 0) v += straight(a, cell) + (echoes ? echo(a, cell) : 0);
                if (ear == 1 && a.x <= cell % w) v += straight(a, cell);
            }
            if (ear != 2 && v > noise) set += 1 << p;
        }
        return set;
    }

    int loud(int l, int cell, boolean echo) {
        if (!isLump(l) || !isCell(cell)) return UNKNOWN;
        if (isOut(l)) return 0;
        return echo ? echo(lumps.get(l), cell) : straight(lumps.get(l), cell);
    }

    int sounds(int cell, int pitch) {
        if (!isCell(cell)) return UNKNOWN;
        if (!isPitch(pitch)) return OUTSIDE;
        int v = 0;
        for (int l = 0; l < lumps.size(); l++) {
            if (lumps.get(l).pitch == pitch) v += loud(l, cell, false) + loud(l, cell, true);
        }
        return v;
    }

    // ---- what is done

    private void become(State s) {
        past.add(now);
        if (past.size() > 20) past.remove(0);
        now = s;
    }

    int blow(int wind) {
        if (wind < 0 || wind > 4) return OUTSIDE;
        int was = now.wind;
        become(new State(wind, now.noise, now.hours, now.digger, now.out, now.places));
        return was;
    }

    int noise(int n) {
        if (n < 0 || n > 99) return OUTSIDE;
        int was = now.noise;
        become(new State(now.wind, n, now.hours, now.digger, now.out, now.places));
        return was;
    }

    int stand(int k, int cell) {
        if (!isHearer(k) || !isCell(cell)) return UNKNOWN;
        List<Integer> places = new ArrayList<>(now.places);
        places.set(k, cell);
        become(new State(now.wind, now.noise, now.hours, now.digger, now.out, places));
        return hearer(k, 2);
    }

    private int apart(int a, int b) {
        return Math.abs(a % w - b % w) + Math.abs(a / w - b / w);
    }

    int walk(int cell) {
        if (!isCell(cell)) return UNKNOWN;
        if (now.hours > 90000) return FULL;
        become(new State(now.wind, now.noise, now.hours + apart(now.digger, cell), cell, now.out, now.places));
        return now.hours;
    }

    int dig() {
        for (int l = 0; l < lumps.size(); l++) {
            if (lump(l, 0) == now.digger && !isOut(l)) {
                if (now.hours > 90000) return FULL;
                become(new State(now.wind, now.noise, now.hours + 1, now.digger, now.out + (1 << l), now.places));
                return lumps.get(l).size;
            }
        }
        return NOT;
    }

    private int draw(int n) {
        seed = (seed * 1103515245L + 12345L) % 2147483648L;
        return (int) (seed / 65536 % n);
    }

    int drift(int n) {
        if (n < 1 || n > 99) return OUTSIDE;
        if (w == 0) return NOT;
        if (now.hours > 90000) return FULL;
        int wind = now.wind;
        int noise = now.noise;
        for (int k = 0; k < n; k++) {
            int d = draw(3);
            if (d == 0) wind = draw(5);
            if (d == 1) noise = draw(30);
        }
        become(new State(wind, noise, now.hours + n, now.digger, now.out, now.places));
        return now.hours;
    }

    int undo() {
        if (past.isEmpty()) return NOT;
        now = past.remove(past.size() - 1);
        return past.size();
    }

    // ---- tried

    private List<Integer> posts(int from, int k, int set) {
        if (k == 0) return set == 0 ? new ArrayList<>() : null;
        for (int c = from; c < w * h; c++) {
            List<Integer> rest = posts(c + 1, k - 1, set & ~hears(0, c, now.noise, true, now.out));
            if (rest != null) {
                rest.add(0, c);
                return rest;
            }
        }
        return null;
    }

    int posts(int i) {
        int all = 0;
        for (int l = 0; l < lumps.size(); l++) if (!isOut(l)) all |= 1 << lumps.get(l).pitch;
        int together = 0;
        for (int c = 0; c < w * h; c++) together |= hears(0, c, now.noise, true, now.out);
        if ((all & ~together) != 0) return NONE;
        for (int k = 0; k <= 4; k++) {
            List<Integer> found = posts(0, k, all);
            if (found != null) return i == NONE ? k : i >= 0 && i < k ? found.get(i) : NONE;
        }
        return NONE;
    }

    private List<Integer> bestRow;
    private int bestGold;
    private int bestHours;

    private void tryRow(List<Integer> row, int at, int hours, int gold, int n) {
        if (hours > n) return;
        // Rows come in their order, so a later one must be better to be taken.
        if (bestRow == null || gold > bestGold || gold == bestGold && hours < bestHours) {
            bestRow = new ArrayList<>(row);
            bestGold = gold;
            bestHours = hours;
        }
        for (int l = 0; l < lumps.size(); l++) {
            if (isOut(l) || row.contains(l)) continue;
            row.add(l);
            int to = lump(l, 0);
            tryRow(row, to, hours + apart(at, to) + 1, gold + lumps.get(l).size, n);
            row.remove(row.size() - 1);
        }
    }

    int order(int n, int i) {
        if (n < 0 || n > 60) return OUTSIDE;
        bestRow = null;
        tryRow(new ArrayList<>(), now.digger, 0, 0, n);
        if (i == NONE) return bestGold;
        return i >= 0 && i < bestRow.size() ? bestRow.get(i) : NONE;
    }

    private boolean isQuiet(int set) {
        for (int a = 0; a < lumps.size(); a++) {
            for (int b = 0; b < lumps.size(); b++) {
                boolean both = a != b && (set & 1 << a) != 0 && (set & 1 << b) != 0;
                if (both && straight(lumps.get(a), lump(b, 0)) > now.noise) return false;
            }
        }
        return true;
    }

    int claims(int what) {
        if (what < 0 || what > 1) return OUTSIDE;
        int best = 0;
        int most = 0;
        for (int set = 0; set < 1 << lumps.size(); set++) {
            if ((set & now.out) != 0 || !isQuiet(set)) continue;
            int size = 0;
            for (int l = 0; l < lumps.size(); l++) if ((set & 1 << l) != 0) size += lumps.get(l).size;
            if (size > most) {
                most = size;
                best = set;
            }
        }
        return what == 0 ? most : best;
    }

    int alloy(int a, int b, int pitch) {
        if (!isPitch(a) || !isPitch(b) || !isPitch(pitch)) return OUTSIDE;
        int set = 0;
        for (int k = 0; k <= 10; k++) if ((k * a + (10 - k) * b) / 10 == pitch) set += 1 << k;
        return set;
    }

    private int count(int k, int noise) {
        return Integer.bitCount(hears(hearers.get(k).ear, now.places.get(k), noise, true, now.out));
    }

    int hum(int first, int second) {
        if (!isHearer(first) || !isHearer(second) || first == second) return UNKNOWN;
        int[][] one = new int[2][2];
        int[][] two = new int[2][2];
        for (int a = 0; a < 2; a++) {
            for (int b = 0; b < 2; b++) {
                int heardByOne = count(first, now.noise + 10 * b);
                int heardByTwo = count(second, now.noise + 10 * a);
                one[a][b] = 2 * heardByOne - heardByTwo - a;
                two[a][b] = 2 * heardByTwo - heardByOne - b;
            }
        }
        int set = 0;
        if (one[0][0] >= one[1][0] && two[0][0] >= two[0][1]) set += 1;
        if (one[1][0] >= one[0][0] && two[1][0] >= two[1][1]) set += 2;
        if (one[0][1] >= one[1][1] && two[0][1] >= two[0][0]) set += 4;
        if (one[1][1] >= one[0][1] && two[1][1] >= two[1][0]) set += 8;
        return set;
    }

    int still(int cell, int set) {
        if (!isCell(cell) || set < 0 || set >> lumps.size() != 0) return UNKNOWN;
        return hears(0, cell, now.noise, true, now.out | set);
    }

    int train(int n, int q) {
        if (n < 0 || n > 60 || q < 0 || q > 100) return OUTSIDE;
        long odds = 1000000000L;
        for (int k = 0; k < n; k++) odds = odds * (100 - q) / 100;
        return (int) odds;
    }

    // ---- hearings, books, images

    int hear(int cell, int pitch, int loud) {
        if (!isCell(cell)) return UNKNOWN;
        if (!isPitch(pitch) || loud < 0 || loud > 999) return OUTSIDE;
        if (hearings.size() == 8) return FULL;
        hearings.add(new Heard(cell, pitch, loud));
        return hearings.size();
    }

    private int alone(Spot s, int at) {
        Lump a = new Lump(s.cell % w, s.cell / w, 0, s.size);
        return straight(a, at) + echo(a, at);
    }

    int lies(int pitch, int i) {
        if (!isPitch(pitch)) return OUTSIDE;
        List<Spot> fit = new ArrayList<>();
        for (int c = 0; c < w * h; c++) {
            for (int s = 1; s <= 9; s++) {
                Spot spot = new Spot(c, s);
                boolean so = true;
                for (Heard one : hearings) so &= one.pitch != pitch || alone(spot, one.cell) == one.loud;
                if (so) fit.add(spot);
            }
        }
        if (i == NONE) return fit.size();
        if (i != -2) return i >= 0 && i < fit.size() ? 10 * fit.get(i).cell + fit.get(i).size : NONE;
        int best = NONE;
        int least = fit.size();
        for (int c = 0; c < w * h; c++) {
            Map<Integer, Integer> parts = new HashMap<>();
            for (Spot s : fit) parts.merge(alone(s, c), 1, Integer::sum);
            int greatest = 0;
            for (int part : parts.values()) greatest = Math.max(greatest, part);
            if (greatest < least) {
                least = greatest;
                best = c;
            }
        }
        return best;
    }

    int write(int k, int set) {
        if (!isHearer(k)) return UNKNOWN;
        if (set < 0 || set > 4095) return OUTSIDE;
        if (book.size() == 15) return FULL;
        book.add(new Entry(k, set));
        return book.size();
    }

    int tear() {
        int both = hearings.size() + book.size();
        hearings.clear();
        book.clear();
        return both;
    }

    int judge() {
        for (int k = 0; k < book.size(); k++) {
            if (hearer(book.get(k).hearer, 2) != book.get(k).set) return k;
        }
        return NONE;
    }

    int seed(int v) {
        if (v < 0) return OUTSIDE;
        int was = (int) seed;
        seed = v;
        return was;
    }

    int keep(int i) {
        if (i != 0 && i != 1) return UNKNOWN;
        images.put(i, new Image(now, seed));
        past.clear();
        return 1;
    }

    int goBack(int i) {
        if (i != 0 && i != 1) return UNKNOWN;
        if (!images.containsKey(i)) return NOT;
        now = images.get(i).state;
        seed = images.get(i).seed;
        past.clear();
        return 1;
    }
}
