/** Promises 10 to 16: blow, noise, stand, walk, dig, drift, undo. */
public final class DoneTest {
    private static final Due DUE = new Due("DoneTest");

    public static void main(String[] args) {
        blow();
        noise();
        stand();
        walk();
        dig();
        drift();
        driftByHand();
        undo();
        undoKeepsTwenty();
        refusedChangesNothing();
        hoursAreFull();
        DUE.end();
    }

    private static void blow() {
        GoldByEar x = Ground.of(Ground.FIVE_BY_FOUR);
        int was = 0;
        for (int wind = 4; wind >= 0; wind--) {
            DUE.is("blow(" + wind + ")", x.blow(wind), was);
            DUE.is("told(6)", x.told(6), wind);
            was = wind;
        }
        DUE.is("blow(-1)", x.blow(-1), GoldByEar.OUTSIDE);
        DUE.is("blow(5)", x.blow(5), GoldByEar.OUTSIDE);
        DUE.is("told(14)", x.told(14), 5);
        DUE.is("blow(2), no cells", new GoldByEar().blow(2), 0);
    }

    private static void noise() {
        GoldByEar x = Ground.of(Ground.FIVE_BY_FOUR);
        DUE.is("noise(99)", x.noise(99), 12);
        DUE.is("noise(0)", x.noise(0), 99);
        DUE.is("told(7)", x.told(7), 0);
        DUE.is("noise(-1)", x.noise(-1), GoldByEar.OUTSIDE);
        DUE.is("noise(100)", x.noise(100), GoldByEar.OUTSIDE);
        DUE.is("noise(3)", x.noise(3), 0);
        DUE.is("told(14)", x.told(14), 3);
        DUE.is("noise(9), no cells", new GoldByEar().noise(9), 5);
    }

    private static void stand() {
        GoldByEar x = Ground.of("g3 1 0;l0 0 3 1;l2 0 4 1;h1 0 0;h1 0 1;n5;");
        DUE.is("hears nothing between", x.hearer(0, 2), 0);
        DUE.is("stand(0, 0)", x.stand(0, 0), 8);
        DUE.is("stand(0, 2)", x.stand(0, 2), 16);
        DUE.is("hearer(0, 0)", x.hearer(0, 0), 2);
        x.noise(9);
        DUE.is("stand(0, 0), 10 against 9", x.stand(0, 0), 8);
        x.noise(10);
        DUE.is("stand(0, 0), 10 against 10", x.stand(0, 0), 0);
        x.noise(5);
        x.stand(0, 2);
        DUE.is("stand(1, 2)", x.stand(1, 2), 16);
        DUE.is("both stand there", x.hearer(1, 0), x.hearer(0, 0));
        DUE.is("stand(2, 0)", x.stand(2, 0), GoldByEar.UNKNOWN);
        DUE.is("stand(-1, 0)", x.stand(-1, 0), GoldByEar.UNKNOWN);
        DUE.is("stand(0, 3)", x.stand(0, 3), GoldByEar.UNKNOWN);
        DUE.is("stand(0, -1)", x.stand(0, -1), GoldByEar.UNKNOWN);
        DUE.is("told(14)", x.told(14), 9);
        DUE.is("undo() of the latest", x.undo(), 8);
        DUE.is("hearer(1, 0) as ahead of it", x.hearer(1, 0), 1);
        DUE.is("hearer(0, 0) still", x.hearer(0, 0), 2);
    }

    private static void walk() {
        GoldByEar x = Ground.of(Ground.FIVE_BY_FOUR);
        DUE.is("walk(19)", x.walk(19), 7);
        DUE.is("walk(19) again", x.walk(19), 7);
        DUE.is("told(14)", x.told(14), 2);
        DUE.is("walk(3)", x.walk(3), 11);
        DUE.is("told(8)", x.told(8), 11);
        DUE.is("told(9)", x.told(9), 3);
        DUE.is("walk(20)", x.walk(20), GoldByEar.UNKNOWN);
        DUE.is("walk(-1)", x.walk(-1), GoldByEar.UNKNOWN);
        DUE.is("told(9), refused", x.told(9), 3);
    }

    private static void dig() {
        GoldByEar x = Ground.of(Ground.FIVE_BY_FOUR);
        DUE.is("dig(), no lump", x.dig(), GoldByEar.NOT);
        x.walk(15);
        DUE.is("dig()", x.dig(), 2);
        DUE.is("told(8)", x.told(8), 4);
        DUE.is("told(10)", x.told(10), 8);
        DUE.is("told(11)", x.told(11), 2);
        DUE.is("dig() again", x.dig(), GoldByEar.NOT);
        x.walk(3);
        DUE.is("dig() lump 1", x.dig(), 9);
        DUE.is("told(10)", x.told(10), 10);
        DUE.is("told(11)", x.told(11), 11);
        GoldByEar y = Ground.of("g1 1 0;l0 0 0 7;");
        DUE.is("dig() at cell 0 at once", y.dig(), 7);
        DUE.is("told(8)", y.told(8), 1);
    }

    private static void drift() {
        GoldByEar x = Ground.of(Ground.FIVE_BY_FOUR);
        DUE.is("drift(0)", x.drift(0), GoldByEar.OUTSIDE);
        DUE.is("drift(100)", x.drift(100), GoldByEar.OUTSIDE);
        DUE.is("drift(-5)", x.drift(-5), GoldByEar.OUTSIDE);
        DUE.is("drift(0), no cells", new GoldByEar().drift(0), GoldByEar.OUTSIDE);
        DUE.is("drift(1), no cells", new GoldByEar().drift(1), GoldByEar.NOT);
        DUE.is("seed(4)", x.seed(4), 0);
        DUE.is("drift(6)", x.drift(6), 6);
        DUE.is("told(6)", x.told(6), 2);
        DUE.is("told(7)", x.told(7), 21);
        DUE.is("drift(99)", x.drift(99), 105);
        DUE.is("told(14)", x.told(14), 2);
        int drawn = x.seed(1);
        x.seed(drawn);
        DUE.is("undo()", x.undo(), 1);
        DUE.is("told(8), undone", x.told(8), 6);
        DUE.is("told(6), undone", x.told(6), 2);
        DUE.is("told(7), undone", x.told(7), 21);
        DUE.is("THE SEED stays", x.seed(0), drawn);
    }

    /** Hour by hour against the rule told in the document, from many seeds. */
    private static void driftByHand() {
        for (int from = 0; from < 40; from++) {
            GoldByEar x = Ground.of(Ground.FIVE_BY_FOUR);
            long seed = from * 53687091L;
            x.seed((int) seed);
            long wind = 0;
            long noise = 12;
            for (int hour = 1; hour <= 12; hour++) {
                seed = (seed * 1103515245L + 12345L) % 2147483648L;
                long drawn = seed / 65536 % 3;
                if (drawn < 2) {
                    seed = (seed * 1103515245L + 12345L) % 2147483648L;
                }
                if (drawn == 0) {
                    wind = seed / 65536 % 5;
                } else if (drawn == 1) {
                    noise = seed / 65536 % 30;
                }
                DUE.is("drift(1)", x.drift(1), hour);
                DUE.is("its WIND", x.told(6), (int) wind);
                DUE.is("its NOISE", x.told(7), (int) noise);
            }
            DUE.is("its SEED", x.seed(0), (int) seed);
        }
    }

    private static void undo() {
        GoldByEar x = Ground.of(Ground.FIVE_BY_FOUR);
        DUE.is("undo(), none", x.undo(), GoldByEar.NOT);
        String[] was = new String[8];
        x.hear(1, 1, 1);
        x.write(0, 132);
        was[0] = Ground.state(x);
        x.blow(3);
        was[1] = Ground.state(x);
        x.noise(44);
        was[2] = Ground.state(x);
        x.stand(2, 19);
        was[3] = Ground.state(x);
        x.walk(3);
        was[4] = Ground.state(x);
        x.dig();
        was[5] = Ground.state(x);
        x.drift(9);
        for (int k = 5; k >= 0; k--) {
            DUE.is("undo()", x.undo(), k);
            DUE.holds("all is as ahead of doing " + k, Ground.state(x).equals(was[k]));
        }
        DUE.is("undo(), no more", x.undo(), GoldByEar.NOT);
        DUE.is("hearings are not undone", x.told(12), 1);
        DUE.is("the book is not undone", x.told(13), 1);
    }

    private static void undoKeepsTwenty() {
        GoldByEar x = Ground.of(Ground.FIVE_BY_FOUR);
        for (int n = 0; n < 25; n++) {
            x.noise(n);
            DUE.is("told(14)", x.told(14), Math.min(n + 1, 20));
        }
        for (int k = 19; k >= 10; k--) {
            DUE.is("undo()", x.undo(), k);
        }
        DUE.is("told(7), ten undone", x.told(7), 14);
        x.noise(77);
        DUE.is("told(14)", x.told(14), 11);
        for (int k = 10; k >= 0; k--) {
            DUE.is("undo()", x.undo(), k);
        }
        DUE.is("undo(), the oldest are lost", x.undo(), GoldByEar.NOT);
        DUE.is("told(7) as far back as can be", x.told(7), 4);
    }

    private static void refusedChangesNothing() {
        GoldByEar x = Ground.of(Ground.FIVE_BY_FOUR);
        x.blow(1);
        x.walk(7);
        String before = Ground.state(x);
        x.blow(5);
        x.noise(100);
        x.stand(4, 0);
        x.stand(0, 20);
        x.walk(20);
        x.dig();
        x.drift(0);
        x.drift(100);
        DUE.holds("what is refused changes nothing", before.equals(Ground.state(x)));
        DUE.is("what is refused draws nothing", x.seed(0), 0);
        DUE.is("what is refused is not undone", x.undo(), 1);
    }

    /** It takes more calls than an object has by the document, so this only holds the code to its words. */
    private static void hoursAreFull() {
        GoldByEar x = Ground.of("g2 1 0;l0 0 0 1;");
        for (int k = 0; k < 909; k++) {
            x.drift(99);
        }
        DUE.is("drift(9) to 90000", x.drift(9), 90000);
        DUE.is("walk(1) at 90000", x.walk(1), 90001);
        DUE.is("walk(1) above 90000", x.walk(1), GoldByEar.FULL);
        DUE.is("walk(2) above 90000", x.walk(2), GoldByEar.UNKNOWN);
        DUE.is("drift(1) above 90000", x.drift(1), GoldByEar.FULL);
        DUE.is("drift(0) above 90000", x.drift(0), GoldByEar.OUTSIDE);
        DUE.is("dig() without a lump above 90000", x.dig(), GoldByEar.NOT);
        x.undo();
        DUE.is("dig() at 90000", x.dig(), 1);
        x.undo();
        x.drift(1);
        DUE.is("dig() above 90000", x.dig(), GoldByEar.FULL);
        DUE.is("told(8)", x.told(8), 90001);
    }
}
