/** What tests do again and again with an object: feed a whole text, read its whole state. */
final class Ground {
    /** The valley of the document's test runs: 5 by 4, a wall, 4 lumps, 4 hearers, noise 12. */
    static final String FIVE_BY_FOUR =
        "g5 4 1;l1 1 2 6;l3 0 7 9;l4 3 2 4;l0 3 9 2;h2 2 0;h4 1 0;h1 0 1;h3 3 2;n12;";

    private Ground() {
    }

    static void feed(GoldByEar x, String text) {
        for (int k = 0; k < text.length(); k++) {
            x.feed(text.charAt(k));
        }
    }

    static int tell(GoldByEar x, String text) {
        feed(x, text);
        return x.valley();
    }

    static GoldByEar of(String text) {
        GoldByEar x = new GoldByEar();
        int answer = tell(x, text);
        if (answer < 0) {
            throw new IllegalStateException("the test's own text has a fault: " + text);
        }
        return x;
    }

    /** All that calls without effect tell about the state, for 'what is refused changes nothing'. */
    static String state(GoldByEar x) {
        StringBuilder all = new StringBuilder();
        for (int what = 0; what <= 14; what++) {
            all.append(x.told(what)).append(' ');
        }
        for (int l = 0; l < 7; l++) {
            for (int what = 0; what < 4; what++) {
                all.append(x.lump(l, what)).append(' ');
            }
        }
        for (int h = 0; h < 4; h++) {
            for (int what = 0; what < 4; what++) {
                all.append(x.hearer(h, what)).append(' ');
            }
        }
        for (int p = 0; p < 12; p++) {
            all.append(x.lies(p, -1)).append(' ');
        }
        all.append(x.fault()).append(' ').append(x.judge());
        return all.toString();
    }
}
