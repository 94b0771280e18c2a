/** Promises 24 to 28: hear, lies, write, tear, judge. */
public final class HearingsTest {
    private static final Due DUE = new Due("HearingsTest");
    private static final int NONE = GoldByEar.NONE;
    private static final int STAND = -2;

    public static void main(String[] args) {
        hear();
        liesWithoutHearings();
        liesByOneHearing();
        liesByWind();
        liesByWall();
        liesBySeveral();
        standOfLikeOnes();
        write();
        tear();
        judge();
        DUE.end();
    }

    private static void hear() {
        GoldByEar x = Ground.of("g3 2 0;");
        DUE.is("hear(-1, 12, 0)", x.hear(-1, 12, 0), GoldByEar.UNKNOWN);
        DUE.is("hear(6, 0, 0)", x.hear(6, 0, 0), GoldByEar.UNKNOWN);
        DUE.is("hear(0, 12, 0)", x.hear(0, 12, 0), GoldByEar.OUTSIDE);
        DUE.is("hear(0, -1, 0)", x.hear(0, -1, 0), GoldByEar.OUTSIDE);
        DUE.is("hear(0, 0, -1)", x.hear(0, 0, -1), GoldByEar.OUTSIDE);
        DUE.is("hear(0, 0, 1000)", x.hear(0, 0, 1000), GoldByEar.OUTSIDE);
        DUE.is("told(12), refused", x.told(12), 0);
        DUE.is("hear(0, 11, 999)", x.hear(0, 11, 999), 1);
        for (int k = 2; k <= 8; k++) {
            DUE.is("hear the " + k + "th", x.hear(5, 0, 0), k);
        }
        DUE.is("hear the ninth", x.hear(5, 0, 0), GoldByEar.FULL);
        DUE.is("hear(6, 0, 0), full", x.hear(6, 0, 0), GoldByEar.UNKNOWN);
        DUE.is("hear(0, 0, 1000), full", x.hear(0, 0, 1000), GoldByEar.OUTSIDE);
        DUE.is("told(12), full", x.told(12), 8);
        DUE.is("hearings cannot be undone", x.told(14), 0);
    }

    private static void liesWithoutHearings() {
        GoldByEar x = Ground.of(Ground.FIVE_BY_FOUR);
        DUE.is("all fits", x.lies(2, NONE), 180);
        DUE.is("the first", x.lies(2, 0), 1);
        DUE.is("the ninth", x.lies(2, 8), 9);
        DUE.is("the tenth", x.lies(2, 9), 11);
        DUE.is("the last", x.lies(2, 179), 199);
        DUE.is("not so many", x.lies(2, 180), NONE);
        DUE.is("lies(2, -3)", x.lies(2, -3), NONE);
        DUE.is("lies(2, least)", x.lies(2, Integer.MIN_VALUE), NONE);
        DUE.is("lies(2, greatest)", x.lies(2, Integer.MAX_VALUE), NONE);
        DUE.is("STAND", x.lies(2, STAND), 3);
        DUE.is("lies(12, NONE)", x.lies(12, NONE), GoldByEar.OUTSIDE);
        DUE.is("lies(-1, 0)", x.lies(-1, 0), GoldByEar.OUTSIDE);
        GoldByEar y = Ground.of("g1 1 0;");
        DUE.is("one cell, nine sizes", y.lies(0, NONE), 9);
        DUE.is("they are told apart there", y.lies(0, STAND), 0);
        y.hear(0, 0, 90);
        DUE.is("the greatest size", y.lies(0, 0), 9);
    }

    private static void liesByOneHearing() {
        GoldByEar x = Ground.of("g3 1 0;l0 0 4 9;");
        x.hear(0, 4, 10);
        DUE.is("10, 20 / 2, 30 / 3", x.lies(4, NONE), 3);
        DUE.is("on the cell", x.lies(4, 0), 1);
        DUE.is("one off", x.lies(4, 1), 12);
        DUE.is("two off", x.lies(4, 2), 23);
        DUE.is("no fourth", x.lies(4, 3), NONE);
        DUE.is("at 0 they sound alike, at 1 not", x.lies(4, STAND), 1);
        DUE.is("another pitch", x.lies(5, NONE), 27);
        x.hear(1, 5, 7);
        DUE.is("a hearing of another pitch does not count", x.lies(4, NONE), 3);
        DUE.is("nothing sounds 7 there", x.lies(5, NONE), 0);
        DUE.is("none fits: the first", x.lies(5, 0), NONE);
        DUE.is("none fits: STAND", x.lies(5, STAND), NONE);
    }

    private static void liesByWind() {
        GoldByEar x = Ground.of("g3 1 0;");
        x.hear(0, 4, 10);
        x.blow(3);
        DUE.is("10, 10 / 2 doubled", x.lies(4, NONE), 2);
        DUE.is("on the cell", x.lies(4, 0), 1);
        DUE.is("one off, half as great", x.lies(4, 1), 11);
        DUE.is("at 0 alike, at 1 5 and 10", x.lies(4, STAND), 1);
        x.undo();
        DUE.is("no wind again", x.lies(4, NONE), 3);
    }

    private static void liesByWall() {
        GoldByEar x = Ground.of("g1 1 1;");
        x.hear(0, 0, 12);
        DUE.is("10 and 10 / 2 / 2", x.lies(0, NONE), 1);
        DUE.is("that is size 1", x.lies(0, 0), 1);
        DUE.is("one alone is not parted", x.lies(0, STAND), NONE);
        x.hear(0, 1, 10);
        DUE.is("never without the echo", x.lies(1, NONE), 0);
    }

    private static void liesBySeveral() {
        GoldByEar x = Ground.of("g3 1 0;");
        x.hear(0, 4, 10);
        x.hear(1, 4, 20);
        DUE.is("both must fit", x.lies(4, NONE), 1);
        DUE.is("one off", x.lies(4, 0), 12);
        x.hear(2, 4, 11);
        DUE.is("one that does not", x.lies(4, NONE), 0);
    }

    private static void standOfLikeOnes() {
        // A lump at either side of the middle: the middle cannot tell them apart, both ends can.
        GoldByEar x = Ground.of("g3 1 0;");
        x.hear(1, 0, 15);
        DUE.is("left or right", x.lies(0, NONE), 2);
        DUE.is("left", x.lies(0, 0), 3);
        DUE.is("right", x.lies(0, 1), 23);
        DUE.is("the least cell that parts them", x.lies(0, STAND), 0);
        // Each of two is parted from the other on its own cell, so only one alone is never parted.
        GoldByEar y = Ground.of("g1 2 0;");
        y.hear(0, 0, 20);
        DUE.is("size 2 there, size 4 one off", y.lies(0, NONE), 2);
        DUE.is("parted at the other cell", y.lies(0, STAND), 1);
    }

    private static void write() {
        GoldByEar x = Ground.of(Ground.FIVE_BY_FOUR);
        DUE.is("write(4, 0)", x.write(4, 0), GoldByEar.UNKNOWN);
        DUE.is("write(-1, -1)", x.write(-1, -1), GoldByEar.UNKNOWN);
        DUE.is("write(0, -1)", x.write(0, -1), GoldByEar.OUTSIDE);
        DUE.is("write(0, 4096)", x.write(0, 4096), GoldByEar.OUTSIDE);
        DUE.is("told(13), refused", x.told(13), 0);
        DUE.is("write(3, 4095)", x.write(3, 4095), 1);
        for (int k = 2; k <= 15; k++) {
            DUE.is("write the " + k + "th", x.write(0, 0), k);
        }
        DUE.is("write the 16th", x.write(0, 0), GoldByEar.FULL);
        DUE.is("write(4, 0), full", x.write(4, 0), GoldByEar.UNKNOWN);
        DUE.is("write(0, 4096), full", x.write(0, 4096), GoldByEar.OUTSIDE);
        DUE.is("told(13), full", x.told(13), 15);
        DUE.is("entries cannot be undone", x.told(14), 0);
    }

    private static void tear() {
        GoldByEar x = Ground.of(Ground.FIVE_BY_FOUR);
        x.hear(0, 0, 0);
        x.hear(0, 0, 0);
        x.write(0, 0);
        DUE.is("tear()", x.tear(), 3);
        DUE.is("told(12)", x.told(12), 0);
        DUE.is("told(13)", x.told(13), 0);
        DUE.is("tear() again", x.tear(), 0);
        DUE.is("lies(0, NONE) behind it", x.lies(0, NONE), 180);
        DUE.is("judge() behind it", x.judge(), NONE);
        DUE.is("hear behind it", x.hear(0, 0, 0), 1);
        DUE.is("write behind it", x.write(0, 0), 1);
    }

    private static void judge() {
        GoldByEar x = Ground.of(Ground.FIVE_BY_FOUR);
        DUE.is("judge(), no book", x.judge(), NONE);
        x.write(0, 132);
        x.write(2, 4);
        x.write(3, 0);
        DUE.is("all are right", x.judge(), NONE);
        x.write(1, 128);
        x.write(0, 0);
        DUE.is("the first that is wrong", x.judge(), 3);
        x.noise(99);
        DUE.is("nobody hears now", x.judge(), 0);
        x.undo();
        DUE.is("as ahead of it", x.judge(), 3);
        x.stand(2, 19);
        DUE.is("where it stands now", x.judge(), 1);
        x.tear();
        DUE.is("torn", x.judge(), NONE);
        GoldByEar y = Ground.of("g1 1 0;l0 0 3 1;h0 0 0;n9;");
        y.write(0, 8);
        DUE.is("10 against 9 is heard", y.judge(), NONE);
        y.noise(10);
        DUE.is("10 against 10 is not", y.judge(), 0);
    }
}
