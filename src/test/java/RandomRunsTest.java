import java.util.Random;

/** Runs of drawn calls, always the same ones, on the class and on the slow one: every answer alike. */
public final class RandomRunsTest {
    private static final int RUNS = 1500;
    private static final int CALLS = 280;
    private static final int[] ODD = {-1000000001, Integer.MIN_VALUE, Integer.MAX_VALUE, -2, -1, 0, 1, 2, 3, 4, 5, 6, 7,
        8, 11, 12, 35, 36, 60, 61, 99, 100, 101, 127, 128, 255, 256, 999, 1000, 4095, 4096, 65536};

    private final Random random;
    private final GoldByEar fast = new GoldByEar();
    private final SlowGold slow = new SlowGold();
    private final Due due;

    private RandomRunsTest(long seed, Due due) {
        random = new Random(seed);
        this.due = due;
    }

    public static void main(String[] args) {
        Due due = new Due("RandomRunsTest");
        for (int run = 0; run < RUNS; run++) {
            RandomRunsTest one = new RandomRunsTest(run, due);
            one.run(run);
        }
        due.end();
    }

    private void run(int run) {
        feedText();
        int calls = 0;
        while (calls < CALLS) {
            if (random.nextInt(120) == 0) {
                feedText();
            }
            oneCall(random.nextInt(32), run);
            calls++;
        }
    }

    private int below(int n) {
        return n > 0 ? random.nextInt(n) : 0;
    }

    /** Mostly a number that may do, sometimes one at or over an edge. */
    private int some(int low, int high) {
        int kind = random.nextInt(24);
        if (kind == 0) return ODD[random.nextInt(ODD.length)];
        if (kind == 1) return low - 1;
        if (kind == 2) return high + 1;
        if (kind == 3) return low;
        if (kind == 4) return high;
        return high >= low ? low + below(high - low + 1) : low;
    }

    private int cell() {
        return some(0, fast.told(0) * fast.told(1) - 1);
    }

    private void feedText() {
        String text = random.nextInt(60) == 0 ? blanks(3) : validText();
        if (random.nextInt(3) == 0) {
            text = spoil(text);
        }
        for (int k = 0; k < text.length(); k++) {
            check("feed", fast.feed(text.charAt(k)), slow.feed(text.charAt(k)), text);
        }
        check("valley", fast.valley(), slow.valley(), text);
        check("fault", fast.fault(), slow.fault(), text);
        if (fast.told(0) == 0 && random.nextInt(8) != 0) {
            feedText();
        }
    }

    private void check(String call, int got, int want, String text) {
        due.is(call + " of '" + text + "'", got, want);
    }

    private String blanks(int most) {
        return " ".repeat(random.nextInt(most + 1));
    }

    private String validText() {
        int w = 1 + random.nextInt(6);
        int h = 1 + random.nextInt(6);
        StringBuilder s = new StringBuilder(blanks(1));
        s.append('g').append(w).append(' ').append(h).append(' ').append(random.nextInt(2)).append(';');
        boolean[] taken = new boolean[36];
        boolean chord = random.nextInt(3) == 0;
        int lumps = chord ? 7 : random.nextInt(8);
        int kinds = 1 + random.nextInt(12);
        for (int l = 0; l < lumps; l++) {
            int x = random.nextInt(w);
            int y = random.nextInt(h);
            if (!taken[y * 6 + x] || random.nextInt(30) == 0) {
                taken[y * 6 + x] = true;
                s.append(blanks(1)).append('l').append(x).append(' ').append(y).append(' ');
                s.append(chord ? 11 - l : random.nextInt(kinds)).append(' ').append(1 + random.nextInt(9)).append(';');
            }
        }
        int hearers = random.nextInt(5);
        for (int k = 0; k < hearers; k++) {
            s.append('h').append(random.nextInt(w)).append(' ').append(random.nextInt(h)).append(blanks(1)).append(' ');
            s.append(random.nextInt(4) == 0 ? 1 + random.nextInt(2) : 0).append(blanks(1)).append(';');
        }
        if (random.nextInt(3) != 0) {
            s.append('n').append(random.nextInt(random.nextInt(2) == 0 ? 20 : 100)).append(';');
        }
        return s.toString();
    }

    /** A letter too many, one too few, another one, a clause again, the text twice. */
    private String spoil(String text) {
        String letters = "glhn;0123456789 x\t,9";
        StringBuilder s = new StringBuilder(text);
        int at = random.nextInt(s.length() + 1);
        switch (random.nextInt(5)) {
            case 0 -> s.insert(at, letters.charAt(random.nextInt(letters.length())));
            case 1 -> s.setLength(at);
            case 2 -> s.replace(at, Math.min(at + 1, s.length()), letters.substring(at % letters.length()).substring(0, 1));
            case 3 -> s.append(text, text.indexOf(';') + 1, text.length());
            default -> s.append(text);
        }
        return s.toString();
    }

    private void oneCall(int which, int run) {
        int a = 0;
        int b = 0;
        int c = 0;
        int got;
        int want;
        String name;
        switch (which) {
            case 0 -> { a = some(0, 14); name = "told"; got = fast.told(a); want = slow.told(a); }
            case 1 -> { a = some(0, fast.told(3) - 1); b = some(0, 3); name = "lump"; got = fast.lump(a, b); want = slow.lump(a, b); }
            case 2 -> { a = some(0, fast.told(4) - 1); b = some(0, 3); name = "hearer"; got = fast.hearer(a, b); want = slow.hearer(a, b); }
            case 3 -> { a = some(0, fast.told(3) - 1); b = cell(); c = random.nextInt(2); name = "loud";
                got = fast.loud(a, b, c == 1); want = slow.loud(a, b, c == 1); }
            case 4 -> { a = cell(); b = some(0, 11); name = "sounds"; got = fast.sounds(a, b); want = slow.sounds(a, b); }
            case 5 -> { a = some(0, 4); name = "blow"; got = fast.blow(a); want = slow.blow(a); }
            case 6 -> { a = some(0, random.nextInt(3) == 0 ? 99 : 25); name = "noise"; got = fast.noise(a); want = slow.noise(a); }
            case 7 -> { a = some(0, fast.told(4) - 1); b = cell(); name = "stand"; got = fast.stand(a, b); want = slow.stand(a, b); }
            case 8 -> { a = cell(); name = "walk"; got = fast.walk(a); want = slow.walk(a); }
            case 9 -> { name = "walk to a lump"; a = fast.lump(below(fast.told(3)), 0); got = fast.walk(a); want = slow.walk(a); }
            case 10 -> { name = "dig"; got = fast.dig(); want = slow.dig(); }
            case 11 -> { a = some(1, 99); name = "drift"; got = fast.drift(a); want = slow.drift(a); }
            case 12 -> { name = "undo"; got = fast.undo(); want = slow.undo(); }
            case 13 -> { a = some(-1, 4); name = "posts"; got = fast.posts(a); want = slow.posts(a); }
            case 14 -> { a = some(0, 60); b = some(-1, 6); name = "order"; got = fast.order(a, b); want = slow.order(a, b); }
            case 15 -> { a = some(0, 20); b = some(-1, 3); name = "order"; got = fast.order(a, b); want = slow.order(a, b); }
            case 16 -> { a = some(0, 1); name = "claims"; got = fast.claims(a); want = slow.claims(a); }
            case 17 -> { a = some(0, 11); b = some(0, 11); c = some(0, 11); name = "alloy"; got = fast.alloy(a, b, c); want = slow.alloy(a, b, c); }
            case 18 -> { a = some(0, fast.told(4) - 1); b = some(0, fast.told(4) - 1); name = "hum"; got = fast.hum(a, b); want = slow.hum(a, b); }
            case 19 -> { a = cell(); b = some(0, (1 << fast.told(3)) - 1); name = "still"; got = fast.still(a, b); want = slow.still(a, b); }
            case 20 -> { a = some(0, 60); b = some(0, 100); name = "train"; got = fast.train(a, b); want = slow.train(a, b); }
            case 21 -> { a = cell(); b = some(0, 2); c = random.nextInt(4) == 0 ? some(0, 999) : some(0, 60); name = "hear";
                got = fast.hear(a, b, c); want = slow.hear(a, b, c); }
            case 22 -> { a = cell(); b = some(0, 11); c = fast.sounds(a, b); name = "hear what sounds";
                got = fast.hear(a, b, c); want = slow.hear(a, b, c); }
            case 23 -> { a = some(0, 11); b = some(-2, 40); name = "lies"; got = fast.lies(a, b); want = slow.lies(a, b); }
            case 24 -> { a = some(0, 3); b = -1 - random.nextInt(2); name = "lies"; got = fast.lies(a, b); want = slow.lies(a, b); }
            case 25 -> { a = some(0, fast.told(4) - 1); b = random.nextInt(4) == 0 ? some(0, 4095) : fast.hearer(a, 2); name = "write";
                got = fast.write(a, b); want = slow.write(a, b); }
            case 26 -> { name = random.nextInt(6) == 0 ? "tear" : "judge";
                got = name.equals("tear") ? fast.tear() : fast.judge(); want = name.equals("tear") ? slow.tear() : slow.judge(); }
            case 27 -> { name = "judge"; got = fast.judge(); want = slow.judge(); }
            case 28 -> { a = random.nextInt(2) == 0 ? some(0, 1000) : random.nextInt(); name = "seed"; got = fast.seed(a); want = slow.seed(a); }
            case 29 -> { a = some(0, 1); name = random.nextInt(4) == 0 ? "keep" : "told(14)";
                got = name.equals("keep") ? fast.keep(a) : fast.told(14); want = name.equals("keep") ? slow.keep(a) : slow.told(14); }
            case 30 -> { a = some(0, 1); name = random.nextInt(4) == 0 ? "goBack" : "told(10)";
                got = name.equals("goBack") ? fast.goBack(a) : fast.told(10); want = name.equals("goBack") ? slow.goBack(a) : slow.told(10); }
            default -> { a = some(0, 255); name = random.nextInt(9) == 0 ? "feed" : "fault";
                got = name.equals("feed") ? fast.feed(a) : fast.fault(); want = name.equals("feed") ? slow.feed(a) : slow.fault(); }
        }
        due.is("run " + run + ": " + name + "(" + a + ", " + b + ", " + c + ")", got, want);
    }
}
