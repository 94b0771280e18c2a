/** Promises 1 to 4: a new object, feed, valley, fault. */
public final class TextTest {
    private static final Due DUE = new Due("TextTest");

    public static void main(String[] args) {
        newObject();
        newObjectRefuses();
        feeding();
        emptyTexts();
        whatATextTells();
        blanks();
        misplaced();
        numbers();
        tooMany();
        taken();
        firstFault();
        faultChangesNothing();
        newValleyForgets();
        DUE.end();
    }

    private static void newObject() {
        GoldByEar x = new GoldByEar();
        int[] told = {0, 0, 0, 0, 0, 0, 0, 5, 0, 0, 0, 0, 0, 0, 0};
        for (int what = 0; what < told.length; what++) {
            DUE.is("new: told(" + what + ")", x.told(what), told[what]);
        }
        DUE.is("new: fault()", x.fault(), GoldByEar.NONE);
        DUE.is("new: posts(NONE)", x.posts(-1), 0);
        DUE.is("new: posts(0)", x.posts(0), GoldByEar.NONE);
        DUE.is("new: order(60, NONE)", x.order(60, -1), 0);
        DUE.is("new: order(60, 0)", x.order(60, 0), GoldByEar.NONE);
        DUE.is("new: claims(0)", x.claims(0), 0);
        DUE.is("new: claims(1)", x.claims(1), 0);
        DUE.is("new: lies(3, NONE)", x.lies(3, -1), 0);
        DUE.is("new: lies(3, 0)", x.lies(3, 0), GoldByEar.NONE);
        DUE.is("new: lies(3, STAND)", x.lies(3, -2), GoldByEar.NONE);
        DUE.is("new: judge()", x.judge(), GoldByEar.NONE);
        DUE.is("new: tear()", x.tear(), 0);
        DUE.is("new: seed(7)", x.seed(7), 0);
        DUE.is("new: valley()", x.valley(), 0);
    }

    private static void newObjectRefuses() {
        GoldByEar x = new GoldByEar();
        DUE.is("new: lump(0, 0)", x.lump(0, 0), GoldByEar.UNKNOWN);
        DUE.is("new: hearer(0, 0)", x.hearer(0, 0), GoldByEar.UNKNOWN);
        DUE.is("new: loud(0, 0, false)", x.loud(0, 0, false), GoldByEar.UNKNOWN);
        DUE.is("new: sounds(0, 0)", x.sounds(0, 0), GoldByEar.UNKNOWN);
        DUE.is("new: stand(0, 0)", x.stand(0, 0), GoldByEar.UNKNOWN);
        DUE.is("new: walk(0)", x.walk(0), GoldByEar.UNKNOWN);
        DUE.is("new: dig()", x.dig(), GoldByEar.NOT);
        DUE.is("new: drift(1)", x.drift(1), GoldByEar.NOT);
        DUE.is("new: undo()", x.undo(), GoldByEar.NOT);
        DUE.is("new: hum(0, 1)", x.hum(0, 1), GoldByEar.UNKNOWN);
        DUE.is("new: still(0, 0)", x.still(0, 0), GoldByEar.UNKNOWN);
        DUE.is("new: hear(0, 0, 0)", x.hear(0, 0, 0), GoldByEar.UNKNOWN);
        DUE.is("new: write(0, 0)", x.write(0, 0), GoldByEar.UNKNOWN);
        DUE.is("new: goBack(0)", x.goBack(0), GoldByEar.NOT);
        DUE.is("new: goBack(1)", x.goBack(1), GoldByEar.NOT);
    }

    private static void feeding() {
        GoldByEar x = new GoldByEar();
        DUE.is("feed(0)", x.feed(0), 1);
        DUE.is("feed(255)", x.feed(255), 2);
        DUE.is("feed(-1)", x.feed(-1), GoldByEar.OUTSIDE);
        DUE.is("feed(256)", x.feed(256), GoldByEar.OUTSIDE);
        DUE.is("told(5)", x.told(5), 2);
        for (int k = 3; k <= 230; k++) {
            DUE.is("feed the " + k + "th", x.feed(' '), k);
        }
        DUE.is("feed the 231st", x.feed(' '), GoldByEar.FULL);
        DUE.is("feed(256), full", x.feed(256), GoldByEar.OUTSIDE);
        DUE.is("told(5), full", x.told(5), 230);
        DUE.is("valley() of letter 0", x.valley(), -11);
        DUE.is("fault() of letter 0", x.fault(), 0);
        DUE.is("told(5) behind valley()", x.told(5), 0);
        DUE.is("feed behind valley()", x.feed('g'), 1);
        StringBuilder longest = new StringBuilder(Ground.FIVE_BY_FOUR);
        while (longest.length() < 230) {
            longest.append(' ');
        }
        GoldByEar y = new GoldByEar();
        DUE.is("a text of 230 letters", Ground.tell(y, longest.toString()), 4);
    }

    private static void emptyTexts() {
        GoldByEar x = Ground.of(Ground.FIVE_BY_FOUR);
        DUE.is("an empty text", x.valley(), 0);
        DUE.is("an empty text: W", x.told(0), 0);
        DUE.is("an empty text: H", x.told(1), 0);
        DUE.is("an empty text: E", x.told(2), 0);
        DUE.is("an empty text: LUMPS", x.told(3), 0);
        DUE.is("an empty text: HEARERS", x.told(4), 0);
        DUE.is("an empty text: NOISE", x.told(7), 5);
        DUE.is("an empty text: fault()", x.fault(), GoldByEar.NONE);
        DUE.is("an empty text: walk(0)", x.walk(0), GoldByEar.UNKNOWN);
        DUE.is("blanks alone", Ground.tell(x, "   "), 0);
        DUE.is("blanks alone: fault()", x.fault(), GoldByEar.NONE);
    }

    private static void whatATextTells() {
        GoldByEar x = new GoldByEar();
        DUE.is("the least valley", Ground.tell(x, "g1 1 0;"), 0);
        DUE.is("its W", x.told(0), 1);
        DUE.is("its H", x.told(1), 1);
        DUE.is("its E", x.told(2), 0);
        DUE.is("its NOISE untold", x.told(7), 5);
        DUE.is("the widest valley", Ground.tell(x, "g6 6 1;n99;"), 0);
        DUE.is("its W", x.told(0), 6);
        DUE.is("its H", x.told(1), 6);
        DUE.is("its E", x.told(2), 1);
        DUE.is("its NOISE", x.told(7), 99);
        DUE.is("noise ahead of lumps", Ground.tell(x, "g2 2 0;n0;h1 1 2;l1 0 11 9;l0 1 0 1;"), 2);
        DUE.is("noise 0", x.told(7), 0);
        DUE.is("lump 0 CELL", x.lump(0, 0), 1);
        DUE.is("lump 0 PITCH", x.lump(0, 1), 11);
        DUE.is("lump 0 SIZE", x.lump(0, 2), 9);
        DUE.is("lump 1 CELL", x.lump(1, 0), 2);
        DUE.is("hearer CELL", x.hearer(0, 0), 3);
        DUE.is("hearer EAR", x.hearer(0, 1), 2);
        DUE.is("seven lumps, four hearers on one cell",
            Ground.tell(x, "g4 2 0;l0 0 0 1;l1 0 0 1;l2 0 0 1;l3 0 0 1;l0 1 0 1;l1 1 0 1;l2 1 0 1;h0 0 0;h0 0 1;h0 0 2;h0 0 0;"), 7);
        DUE.is("four hearers", x.told(4), 4);
    }

    private static void blanks() {
        GoldByEar x = new GoldByEar();
        DUE.is("blanks everywhere", Ground.tell(x, "  g  5   4 1  ;  l 1 1 2 6 ;n   12   ;  "), 1);
        DUE.is("its NOISE", x.told(7), 12);
        DUE.is("none where none is needed", Ground.tell(x, "g5 4 1;l4 3 2 6;"), 1);
        DUE.is("figures ahead that are 0", Ground.tell(x, "g005 04 001;l004 003 011 009;n099;"), 1);
        DUE.is("their CELL", x.lump(0, 0), 19);
        fails(x, "g5 4 1;n1 2;", 1, 10);
        fails(x, "g54 1;", 2, 1);
        fails(x, "g5\t4 1;", 1, 2);
    }

    private static void misplaced() {
        GoldByEar x = new GoldByEar();
        fails(x, "x", 1, 0);
        fails(x, "l0 0 0 1;", 1, 0);
        fails(x, "h0 0 0;", 1, 0);
        fails(x, "n5;", 1, 0);
        fails(x, ";", 1, 0);
        fails(x, "5", 1, 0);
        fails(x, "  x", 1, 2);
        fails(x, "G1 1 0;", 1, 0);
        fails(x, "g", 1, 1);
        fails(x, "g ", 1, 2);
        fails(x, "g1 1", 1, 4);
        fails(x, "g1 1 0", 1, 6);
        fails(x, "g1 1 0  ", 1, 8);
        fails(x, "g1 1;", 1, 4);
        fails(x, "g1 1 0 0;", 1, 7);
        fails(x, "g1 1 0;;", 1, 7);
        fails(x, "g1 1 0;x", 1, 7);
        fails(x, "g1 1 0;l0 0 0;", 1, 13);
        fails(x, "g1 1 0;l0 0 0 1 1;", 1, 16);
        fails(x, "g1 1 0;h0 0;", 1, 11);
        fails(x, "g1 1 0;n;", 1, 8);
        fails(x, "g1 1 0;n-1;", 1, 8);
        fails(x, "gg", 1, 1);
        fails(x, "g1 1 0l", 1, 6);
        fails(x, "g1 1 0;n5", 1, 9);
    }

    private static void numbers() {
        GoldByEar x = new GoldByEar();
        fails(x, "g0 1 0;", 2, 1);
        fails(x, "g7 1 0;", 2, 1);
        fails(x, "g1 0 0;", 2, 3);
        fails(x, "g1 7 0;", 2, 3);
        fails(x, "g1 1 2;", 2, 5);
        fails(x, "g0001 1 0;", 2, 1);
        fails(x, "g1 1 0000;", 2, 5);
        fails(x, "g1 1 0;n99999999999999999999;", 2, 8);
        fails(x, "g1 1 0;n0000", 2, 8);
        fails(x, "g1 1 0;n100;", 2, 8);
        fails(x, "g3 2 0;l3 0 0 1;", 2, 8);
        fails(x, "g3 2 0;l2 2 0 1;", 2, 10);
        fails(x, "g3 2 0;l3 2 0 1;", 2, 8);
        fails(x, "g3 2 0;l2 1 12 1;", 2, 12);
        fails(x, "g3 2 0;l2 1 11 0;", 2, 15);
        fails(x, "g3 2 0;l2 1 11 10;", 2, 15);
        fails(x, "g3 2 0;h3 0 0;", 2, 8);
        fails(x, "g3 2 0;h0 2 0;", 2, 10);
        fails(x, "g3 2 0;h0 1 3;", 2, 12);
    }

    private static void tooMany() {
        GoldByEar x = new GoldByEar();
        fails(x, "g1 1 0;g", 3, 7);
        fails(x, "g1 1 0; g1 1 0;", 3, 8);
        fails(x, "g1 1 0;n5;n5;", 3, 10);
        String lumps = "g4 2 0;l0 0 0 1;l1 0 0 1;l2 0 0 1;l3 0 0 1;l0 1 0 1;l1 1 0 1;l2 1 0 1;";
        fails(x, lumps + "l3 1 0 1;", 3, lumps.length());
        fails(x, lumps + "l", 3, lumps.length());
        String hearers = "g1 1 0;h0 0 0;h0 0 0;h0 0 0;h0 0 0;";
        fails(x, hearers + "h0 0 0;", 3, hearers.length());
    }

    private static void taken() {
        GoldByEar x = new GoldByEar();
        fails(x, "g2 2 0;l1 0 0 1;l1 0 5 5;", 4, 19);
        fails(x, "g2 2 0;l1 0 0 1;l1   00 5 5;", 4, 21);
        fails(x, "g2 2 0;l1 0 0 1;l1 0 99 5;", 4, 19);
        fails(x, "g2 2 0;l1 0 0 1;l1 2 0 1;", 2, 19);
        DUE.is("a hearer where a lump is", Ground.tell(x, "g2 2 0;l1 0 0 1;h1 0 0;"), 1);
    }

    private static void firstFault() {
        GoldByEar x = new GoldByEar();
        fails(x, "g9 x", 2, 1);
        fails(x, "g1 1 0;n5;x n6;", 1, 10);
        fails(x, "g1 1 0;l0 0 12 x;", 2, 12);
        fails(x, "g1 1 0;q99999", 1, 7);
        DUE.is("then a good one", Ground.tell(x, "g1 1 0;"), 0);
        DUE.is("fault() of a good one", x.fault(), GoldByEar.NONE);
    }

    private static void faultChangesNothing() {
        GoldByEar x = Ground.of(Ground.FIVE_BY_FOUR);
        x.blow(2);
        x.walk(6);
        x.keep(1);
        x.dig();
        x.stand(0, 7);
        x.hear(3, 2, 10);
        x.write(1, 4);
        String before = Ground.state(x);
        DUE.is("a fault", Ground.tell(x, "g2 2 1;l0 0 0 1;n7;l0 0 0 1;"), -14);
        DUE.is("its letter", x.fault(), 22);
        DUE.is("fault() again", x.fault(), 22);
        Ground.tell(x, "g3 3 0;n2;x");
        DUE.holds("a fault changes nothing but itself", before.substring(0, before.lastIndexOf(' ', before.lastIndexOf(' ') - 1))
            .equals(Ground.state(x).substring(0, before.lastIndexOf(' ', before.lastIndexOf(' ') - 1))));
        DUE.is("undo() behind a fault", x.undo(), 1);
        DUE.is("goBack(1) behind a fault", x.goBack(1), 1);
        DUE.is("told(9) behind goBack(1)", x.told(9), 6);
    }

    private static void newValleyForgets() {
        GoldByEar x = Ground.of(Ground.FIVE_BY_FOUR);
        x.seed(77);
        x.blow(2);
        x.noise(40);
        x.walk(6);
        x.dig();
        x.stand(1, 0);
        x.keep(0);
        x.keep(1);
        x.blow(1);
        x.hear(3, 2, 10);
        x.write(1, 4);
        DUE.is("the same valley again", Ground.tell(x, Ground.FIVE_BY_FOUR), 4);
        int[] told = {5, 4, 1, 4, 4, 0, 0, 12, 0, 0, 0, 0, 0, 0, 0};
        for (int what = 0; what < told.length; what++) {
            DUE.is("anew: told(" + what + ")", x.told(what), told[what]);
        }
        DUE.is("anew: hearer(1, 0)", x.hearer(1, 0), 9);
        DUE.is("anew: lump(0, 3)", x.lump(0, 3), 0);
        DUE.is("anew: undo()", x.undo(), GoldByEar.NOT);
        DUE.is("anew: goBack(0)", x.goBack(0), GoldByEar.NOT);
        DUE.is("anew: goBack(1)", x.goBack(1), GoldByEar.NOT);
        DUE.is("anew: THE SEED stays", x.seed(0), 77);
    }

    private static void fails(GoldByEar x, String text, int kind, int at) {
        DUE.is("valley() of '" + text + "'", Ground.tell(x, text), -10 - kind);
        DUE.is("fault() of '" + text + "'", x.fault(), at);
        DUE.is("told(5) behind '" + text + "'", x.told(5), 0);
    }
}
