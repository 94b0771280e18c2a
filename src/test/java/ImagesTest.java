/** Promises 29 to 31: seed, keep, goBack. */
public final class ImagesTest {
    private static final Due DUE = new Due("ImagesTest");

    public static void main(String[] args) {
        seed();
        keep();
        goBack();
        bothImages();
        withoutCells();
        refusedChangesNothing();
        DUE.end();
    }

    private static void seed() {
        GoldByEar x = Ground.of(Ground.FIVE_BY_FOUR);
        DUE.is("seed(5)", x.seed(5), 0);
        DUE.is("seed(-1)", x.seed(-1), GoldByEar.OUTSIDE);
        DUE.is("seed(least)", x.seed(Integer.MIN_VALUE), GoldByEar.OUTSIDE);
        DUE.is("seed(2147483647)", x.seed(2147483647), 5);
        DUE.is("seed(0)", x.seed(0), 2147483647);
        DUE.is("a seed cannot be undone", x.told(14), 0);
        // On hour 1 the first draw is of 12345 / 65536: 0, so WIND is drawn.
        x.drift(1);
        DUE.is("THE SEED after two draws", x.seed(0), (int) ((12345L * 1103515245L + 12345L) % 2147483648L));
        x.seed(2147483647);
        x.drift(1);
        DUE.is("drift from the greatest", x.told(8), 2);
    }

    private static void keep() {
        GoldByEar x = Ground.of(Ground.FIVE_BY_FOUR);
        DUE.is("keep(-1)", x.keep(-1), GoldByEar.UNKNOWN);
        DUE.is("keep(2)", x.keep(2), GoldByEar.UNKNOWN);
        x.blow(2);
        x.noise(7);
        DUE.is("keep(2), told(14)", x.told(14), 2);
        DUE.is("keep(0)", x.keep(0), 1);
        DUE.is("keep(0): told(14)", x.told(14), 0);
        DUE.is("keep(0): undo()", x.undo(), GoldByEar.NOT);
        DUE.is("keep(0): told(6)", x.told(6), 2);
        DUE.is("goBack(1), not kept", x.goBack(1), GoldByEar.NOT);
    }

    private static void goBack() {
        GoldByEar x = Ground.of(Ground.FIVE_BY_FOUR);
        x.seed(99);
        x.blow(4);
        x.noise(3);
        x.stand(1, 0);
        x.walk(6);
        x.dig();
        x.keep(1);
        String kept = Ground.state(x);
        x.blow(1);
        x.noise(88);
        x.stand(1, 7);
        x.stand(0, 7);
        x.walk(3);
        x.dig();
        x.drift(30);
        DUE.is("goBack(1)", x.goBack(1), 1);
        DUE.holds("all is as it was kept", kept.equals(Ground.state(x)));
        DUE.is("goBack(1): undo()", x.undo(), GoldByEar.NOT);
        DUE.is("goBack(1): THE SEED", x.seed(99), 99);
        x.drift(12);
        x.hear(1, 1, 1);
        x.write(0, 5);
        DUE.is("goBack(1) again", x.goBack(1), 1);
        DUE.is("THE SEED again", x.seed(99), 99);
        DUE.is("hearings stay", x.told(12), 1);
        DUE.is("the book stays", x.told(13), 1);
        x.tear();
        DUE.holds("again all is as it was kept", kept.equals(Ground.state(x)));
        x.blow(0);
        x.keep(1);
        x.blow(3);
        x.goBack(1);
        DUE.is("an image is kept anew", x.told(6), 0);
    }

    private static void bothImages() {
        GoldByEar x = Ground.of(Ground.FIVE_BY_FOUR);
        x.stand(0, 1);
        x.keep(0);
        x.stand(0, 2);
        x.seed(6);
        x.keep(1);
        x.stand(0, 3);
        x.goBack(0);
        DUE.is("image 0", x.hearer(0, 0), 1);
        DUE.is("image 0: THE SEED", x.seed(8), 0);
        x.goBack(1);
        DUE.is("image 1", x.hearer(0, 0), 2);
        DUE.is("image 1: THE SEED", x.seed(8), 6);
        x.stand(0, 9);
        DUE.is("an image is not what goes on from it", x.goBack(1), 1);
        DUE.is("image 1 again", x.hearer(0, 0), 2);
    }

    private static void withoutCells() {
        GoldByEar x = new GoldByEar();
        x.blow(3);
        DUE.is("keep(0), no cells", x.keep(0), 1);
        x.blow(1);
        DUE.is("goBack(0), no cells", x.goBack(0), 1);
        DUE.is("told(6)", x.told(6), 3);
    }

    private static void refusedChangesNothing() {
        GoldByEar x = Ground.of(Ground.FIVE_BY_FOUR);
        x.seed(4);
        x.blow(1);
        x.walk(2);
        String before = Ground.state(x);
        DUE.is("goBack(0), not kept", x.goBack(0), GoldByEar.NOT);
        DUE.is("goBack(-1)", x.goBack(-1), GoldByEar.UNKNOWN);
        DUE.is("goBack(2)", x.goBack(2), GoldByEar.UNKNOWN);
        DUE.is("keep(5)", x.keep(5), GoldByEar.UNKNOWN);
        DUE.is("seed(-9)", x.seed(-9), GoldByEar.OUTSIDE);
        DUE.holds("what is refused changes nothing", before.equals(Ground.state(x)));
        DUE.is("THE SEED", x.seed(4), 4);
        DUE.is("undo() goes on", x.undo(), 1);
    }
}
