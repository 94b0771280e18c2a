import java.math.BigInteger;

/** Sections 2 and 3 of the document and the promises that rest on them, at their bounds; ahead of each test stand its words. */
public final class EdgesTest {
    private static final Due DUE = new Due("EdgesTest");
    private static final int NONE = GoldByEar.NONE;
    private static final int UNKNOWN = GoldByEar.UNKNOWN;
    private static final int NOT = GoldByEar.NOT;
    private static final int STAND = -2;
    private static final int LEAST = Integer.MIN_VALUE;
    private static final int GREATEST = Integer.MAX_VALUE;
    private static final String ONE = "g1 1 0;l0 0 0 1;h0 0 0;h0 0 1;h0 0 2;";
    private static final String SEVEN = "g6 6 1;l0 0 0 9;l5 5 1 9;l0 5 2 9;l5 0 3 9;l2 2 4 1;l3 3 5 1;l5 2 6 5;";

    public static void main(String[] args) {
        windAtFirst();
        loudNearAndFar();
        notBehind();
        echoNearAndFar();
        moreThanNoise();
        noNoise();
        earToTheLeft();
        deaf();
        fooled();
        diggerAtFirst();
        walkNoWay();
        digOneHourMore();
        gold();
        hearingsAtMost();
        liesOfNothingHeard();
        liesOfSilence();
        liesOfTheLoudest();
        liesOfNoMatterWhatLumps();
        liesBeyond();
        standPartsNone();
        standWithinTheCells();
        standByTheGreatestSize();
        liesInALesserValley();
        postsNoneToFour();
        postsBeyond();
        orderNoHours();
        orderJustInTime();
        orderOfLikeGold();
        orderBeyond();
        claimsNotLouder();
        claimsOfNone();
        alloyEnds();
        humAboveAllNoise();
        humWantsLike();
        stillNoneAndAll();
        trainEnds();
        bookAtMost();
        judgeFirst();
        tearEmpty();
        seedEnds();
        seedLeftOver();
        driftEnds();
        undoneTwenty();
        undoneWrapsAround();
        undoneOnlyWhatWasDone();
        undoBringsBackAll();
        undoIsNotDone();
        imagesKeptAnew();
        imagesStay();
        imagesWithoutHearings();
        toldAtItsEnds();
        DUE.end();
    }

    // 'WIND is 0 none (at first)'; 'blow: WIND (0 .. 4): what it was'
    private static void windAtFirst() {
        GoldByEar x = new GoldByEar();
        DUE.is("a new object has no WIND", x.told(6), 0);
        DUE.is("blow(4)", x.blow(4), 0);
        DUE.is("blow(0)", x.blow(0), 4);
        DUE.is("blow(0) again", x.blow(0), 0);
        DUE.is("what changes nothing can be undone, too", x.told(14), 3);
        DUE.is("a valley has none at first", Ground.of(ONE).blow(1), 0);
    }

    // '10 times SIZE / (1 and how far it is: X apart and Y apart together)'
    private static void loudNearAndFar() {
        GoldByEar x = Ground.of("g6 6 0;l0 0 0 9;l5 5 0 1;");
        DUE.is("SIZE 9 on its CELL", x.loud(0, 0, false), 90);
        DUE.is("SIZE 9, 10 off", x.loud(0, 35, false), 8);
        DUE.is("SIZE 1 on its CELL", x.loud(1, 35, false), 10);
        DUE.is("SIZE 1, 10 off, is cut to nothing", x.loud(1, 0, false), 0);
        DUE.is("SIZE 1, 9 off", x.loud(1, 1, false), 1);
        x.blow(3);
        DUE.is("twice nothing", x.loud(1, 0, false), 0);
        DUE.is("twice 1", x.loud(1, 1, false), 2);
        x.blow(1);
        DUE.is("twice 8, not 90 * 2 / 11 (16.3)", x.loud(0, 35, false), 16);
        x.dig();
        DUE.is("out", x.loud(0, 0, false), 0);
        DUE.is("out, twice nothing", x.loud(0, 35, false), 0);
    }

    // 'the CELL lies behind the LUMP as it blows (to the right: its X is greater; likewise the others)'
    private static void notBehind() {
        GoldByEar x = Ground.of("g3 3 1;l1 1 0 4;");
        int[][] behind = {{}, {2, 5, 8}, {6, 7, 8}, {0, 3, 6}, {0, 1, 2}};
        int[] calm = {13, 20, 13, 20, 40, 20, 13, 20, 13};
        for (int wind = 0; wind <= 4; wind++) {
            x.blow(wind);
            int[] due = calm.clone();
            for (int cell : behind[wind]) {
                due[cell] *= 2;
            }
            for (int cell = 0; cell < 9; cell++) {
                DUE.is("WIND " + wind + ", CELL " + cell, x.loud(0, cell, false), due[cell]);
            }
        }
    }

    // 'Its ECHO, if there is a WALL'; 'WIND does nothing to it'
    private static void echoNearAndFar() {
        GoldByEar x = Ground.of("g6 6 1;l5 0 0 9;l0 0 0 1;l0 5 0 9;");
        DUE.is("one off, over the WALL: 90 / 2 / 2, cut", x.loud(0, 5, true), 22);
        DUE.is("far: 90 / 17 / 2", x.loud(2, 0, true), 2);
        DUE.is("SIZE 1 far: nothing", x.loud(1, 30, true), 0);
        DUE.is("SIZE 1 to the WALL: 10 / 7 / 2 is nothing", x.loud(1, 5, true), 0);
        for (int wind = 0; wind <= 4; wind++) {
            x.blow(wind);
            DUE.is("WIND " + wind, x.loud(0, 4, true), 15);
            DUE.is("WIND " + wind + ", another row", x.loud(0, 11, true), 15);
        }
        GoldByEar y = Ground.of("g6 6 0;l5 0 0 9;");
        DUE.is("no WALL", y.loud(0, 5, true), 0);
        GoldByEar z = Ground.of("g1 1 1;l0 0 0 1;");
        DUE.is("W 1: 10 / 2 / 2", z.loud(0, 0, true), 2);
        DUE.is("both together", z.sounds(0, 0), 12);
        z.dig();
        DUE.is("out: no ECHO", z.loud(0, 0, true), 0);
        DUE.is("out: nothing SOUNDS", z.sounds(0, 0), 0);
    }

    // 'It is HEARD by a HEARER, if that is more than NOISE'
    private static void moreThanNoise() {
        GoldByEar x = Ground.of("g1 1 0;l0 0 11 9;h0 0 0;n89;");
        DUE.is("90 is more than 89", x.hearer(0, 2), 2048);
        x.noise(90);
        DUE.is("90 is not more than 90", x.hearer(0, 2), 0);
        x.noise(99);
        DUE.is("90 is not more than 99", x.hearer(0, 2), 0);
        GoldByEar y = Ground.of("g1 1 1;l0 0 0 9;h0 0 0;n99;");
        DUE.is("90 and 22 are more than 99", y.hearer(0, 2), 1);
    }

    private static void noNoise() {
        GoldByEar x = Ground.of("g6 6 0;l0 0 3 1;h5 5 0;h4 5 0;n0;");
        DUE.is("nothing is not more than NOISE 0", x.hearer(0, 2), 0);
        DUE.is("1 is", x.hearer(1, 2), 8);
    }

    // 'by EAR 1 only LUMPS whose X is no greater than its own, without ECHOES'
    private static void earToTheLeft() {
        GoldByEar x = Ground.of("g3 3 1;l0 1 0 9;l1 0 1 9;l1 2 2 9;l1 1 3 9;l2 1 4 9;h1 1 1;n0;");
        DUE.is("left, above, below, its own CELL; not the right", x.hearer(0, 2), 15);
        DUE.is("at the last X all", x.stand(0, 5), 31);
        DUE.is("at X 0 only what is at X 0", x.stand(0, 3), 1);
        x.noise(89);
        DUE.is("90 without its ECHO is more than 89", x.stand(0, 5), 16);
        x.noise(90);
        DUE.is("with its ECHO it would be more than 90", x.hearer(0, 2), 0);
        DUE.is("a good EAR hears it there", x.still(5, 0), 16);
        x.noise(44);
        x.stand(0, 4);
        DUE.is("WIND counts for EAR 1: 45 from the left without", x.hearer(0, 2), 15);
        x.noise(45);
        DUE.is("45 is not more than 45", x.hearer(0, 2), 8);
        x.blow(1);
        DUE.is("twice 45 from the left", x.hearer(0, 2), 9);
    }

    // 'by EAR 2 nothing'
    private static void deaf() {
        GoldByEar x = Ground.of("g1 1 1;l0 0 0 9;h0 0 2;n0;");
        DUE.is("HEARS", x.hearer(0, 2), 0);
        DUE.is("FOOLED", x.hearer(0, 3), 0);
        DUE.is("stand", x.stand(0, 0), 0);
    }

    // 'FOOLED by a PITCH that it HEARS, which without ECHOES it would not'
    private static void fooled() {
        GoldByEar x = Ground.of("g1 1 1;l0 0 6 4;h0 0 0;h0 0 1;");
        int[] noises = {0, 39, 40, 49, 50, 99};
        int[] hears = {64, 64, 64, 64, 0, 0};
        int[] fooled = {0, 0, 64, 64, 0, 0};
        for (int k = 0; k < noises.length; k++) {
            x.noise(noises[k]);
            DUE.is("40 and 10 against " + noises[k] + ": HEARS", x.hearer(0, 2), hears[k]);
            DUE.is("40 and 10 against " + noises[k] + ": FOOLED", x.hearer(0, 3), fooled[k]);
            DUE.is("EAR 1 against " + noises[k] + ": FOOLED", x.hearer(1, 3), 0);
        }
        // Two lumps: the one's ECHO lifts both over NOISE.
        GoldByEar y = Ground.of("g2 1 1;l0 0 6 2;l1 0 6 2;h1 0 0;n30;");
        DUE.is("10 and 20, ECHOES 3 and 5: HEARS", y.hearer(0, 2), 64);
        DUE.is("FOOLED by all LUMPS of it together", y.hearer(0, 3), 64);
        y.noise(29);
        DUE.is("30 is more than 29", y.hearer(0, 3), 0);
    }

    // 'The DIGGER, at CELL 0 at first'
    private static void diggerAtFirst() {
        DUE.is("in a new object", new GoldByEar().told(9), 0);
        GoldByEar x = Ground.of(ONE);
        DUE.is("in a valley", x.told(9), 0);
        DUE.is("he can dig at once", x.dig(), 1);
    }

    // 'WALKS a CELL an HOUR (X apart and Y apart together)'
    private static void walkNoWay() {
        GoldByEar x = Ground.of("g6 6 0;");
        DUE.is("to where he is", x.walk(0), 0);
        DUE.is("can be undone", x.told(14), 1);
        DUE.is("to the farthest", x.walk(35), 10);
        DUE.is("along X", x.walk(30), 15);
        DUE.is("along Y", x.walk(0), 20);
    }

    // 'digs a LUMP out in one more, if one is where he is'
    private static void digOneHourMore() {
        GoldByEar x = Ground.of("g2 1 0;l1 0 0 9;");
        x.walk(1);
        DUE.is("dig()", x.dig(), 9);
        DUE.is("HOURS", x.told(8), 2);
        DUE.is("dig() again", x.dig(), NOT);
        DUE.is("HOURS still", x.told(8), 2);
        x.undo();
        DUE.is("in again, out again", x.dig(), 9);
    }

    // 'GOLD is SIZE of all that is out'
    private static void gold() {
        GoldByEar x = Ground.of(SEVEN);
        int[] cells = {0, 35, 30, 5, 14, 21, 17};
        int[] gold = {9, 18, 27, 36, 37, 38, 43};
        int out = 0;
        DUE.is("nothing is out", x.told(11), 0);
        for (int l = 0; l < 7; l++) {
            x.walk(cells[l]);
            x.dig();
            out |= 1 << l;
            DUE.is("LUMPS that are out", x.told(10), out);
            DUE.is("GOLD", x.told(11), gold[l]);
        }
        DUE.is("all are out: order", x.order(60, NONE), 0);
        DUE.is("all are out: posts", x.posts(NONE), 0);
        DUE.is("all are out: claims", x.claims(1), 0);
        DUE.is("all are out: still", x.still(0, 127), 0);
    }

    // 'HEARINGS (8 at most): at a CELL a PITCH SOUNDED so LOUD (0 .. 999)'
    private static void hearingsAtMost() {
        GoldByEar x = Ground.of(SEVEN);
        DUE.is("the least of all", x.hear(0, 0, 0), 1);
        DUE.is("the greatest of all", x.hear(35, 11, 999), 2);
        for (int k = 3; k <= 7; k++) {
            DUE.is("hear the " + k + "th", x.hear(0, 6, 1), k);
        }
        DUE.is("hear the eighth", x.hear(0, 5, 93), 8);
        DUE.is("hear the ninth", x.hear(0, 5, 1), GoldByEar.FULL);
        DUE.is("told(12)", x.told(12), 8);
        DUE.is("the eighth counts, the ninth does not", x.lies(5, NONE), 1);
        DUE.is("tear()", x.tear(), 8);
        DUE.is("there is room again", x.hear(0, 5, 1), 1);
    }

    // 'LIES: CELLS and SIZES (1 to 9) .. how many; the i-th (10 times the CELL and the SIZE; rising)'
    private static void liesOfNothingHeard() {
        GoldByEar x = Ground.of("g6 6 1;");
        DUE.is("no HEARINGS: all fits", x.lies(0, NONE), 324);
        for (int i = 0; i < 324; i++) {
            DUE.is("the " + i + "-th", x.lies(11, i), 10 * (i / 9) + i % 9 + 1);
        }
        DUE.is("not so many", x.lies(11, 324), NONE);
        DUE.is("no CELLS: none fits", new GoldByEar().lies(0, NONE), 0);
        DUE.is("no CELLS: the first", new GoldByEar().lies(0, 0), NONE);
        DUE.is("no CELLS: STAND", new GoldByEar().lies(0, STAND), NONE);
    }

    private static void liesOfSilence() {
        GoldByEar x = Ground.of("g6 6 0;");
        x.hear(0, 4, 0);
        DUE.is("only SIZE 1 in the far corner is not to be heard", x.lies(4, NONE), 1);
        DUE.is("that one", x.lies(4, 0), 351);
        DUE.is("one alone is not parted", x.lies(4, STAND), NONE);
    }

    private static void liesOfTheLoudest() {
        GoldByEar x = Ground.of("g6 6 1;");
        x.hear(5, 0, 112);
        DUE.is("90 and 22", x.lies(0, NONE), 1);
        DUE.is("SIZE 9 there", x.lies(0, 0), 59);
        x.hear(5, 1, 113);
        DUE.is("more than any", x.lies(1, NONE), 0);
        x.hear(5, 2, 999);
        DUE.is("far more than any", x.lies(2, NONE), 0);
        DUE.is("the first of none", x.lies(2, 0), NONE);
        DUE.is("STAND: none fits", x.lies(2, STAND), NONE);
        GoldByEar y = Ground.of("g6 1 0;");
        y.blow(1);
        y.hear(1, 0, 90);
        DUE.is("90 with WIND: SIZE 9 on it, SIZE 9 to the left twice 45", y.lies(0, NONE), 2);
        DUE.is("the first", y.lies(0, 0), 9);
        DUE.is("the second", y.lies(0, 1), 19);
    }

    // '(of no matter what LUMPS there are; WIND as now, the WALL)'
    private static void liesOfNoMatterWhatLumps() {
        GoldByEar x = Ground.of("g2 1 0;l0 0 0 9;");
        x.hear(0, 0, 10);
        DUE.is("SIZE 1 where a LUMP of 9 is, SIZE 2 or 3 beside", x.lies(0, NONE), 2);
        DUE.is("the first", x.lies(0, 0), 1);
        DUE.is("the second", x.lies(0, 1), 12);
        x.dig();
        DUE.is("whether it is out or not", x.lies(0, NONE), 2);
        x.noise(99);
        DUE.is("be NOISE what it may", x.lies(0, NONE), 2);
        x.blow(3);
        DUE.is("WIND as now: 10 / 2 twice", x.lies(0, 1), 11);
    }

    // 'else the i-th; NONE'
    private static void liesBeyond() {
        GoldByEar x = Ground.of(ONE);
        DUE.is("nine", x.lies(3, NONE), 9);
        DUE.is("the last", x.lies(3, 8), 9);
        for (int i : new int[] {9, 10, 1000, GREATEST, -3, -4, LEAST}) {
            DUE.is("lies(3, " + i + ")", x.lies(3, i), NONE);
        }
    }

    // 'of like ones the least; NONE: none parts them, none fits'
    private static void standPartsNone() {
        GoldByEar x = Ground.of("g2 2 0;");
        x.hear(0, 0, 15);
        DUE.is("SIZE 3 to the right or below", x.lies(0, NONE), 2);
        DUE.is("CELLS 1 and 2 part them: the least", x.lies(0, STAND), 1);
        x.hear(3, 0, 15);
        DUE.is("both still fit", x.lies(0, NONE), 2);
        x.hear(1, 0, 30);
        DUE.is("one is left", x.lies(0, NONE), 1);
        DUE.is("nothing to part", x.lies(0, STAND), NONE);
        x.hear(2, 0, 30);
        DUE.is("none is left", x.lies(0, STAND), NONE);
        GoldByEar y = Ground.of("g1 1 0;");
        DUE.is("nine SIZES are parted on the only CELL", y.lies(0, STAND), 0);
    }

    // No CELL parts all three; the first place behind the CELLS would, but there is none.
    private static void standWithinTheCells() {
        GoldByEar x = Ground.of("g2 3 1;");
        x.hear(3, 0, 6);
        DUE.is("SIZE 1, one off, with its ECHO", x.lies(0, NONE), 3);
        DUE.is("above", x.lies(0, 0), 11);
        DUE.is("to the left", x.lies(0, 1), 21);
        DUE.is("below", x.lies(0, 2), 51);
        DUE.is("two of three are alike at each other CELL: the least", x.lies(0, STAND), 0);
    }

    private static void standByTheGreatestSize() {
        GoldByEar x = Ground.of("g2 1 0;");
        x.blow(3);
        x.hear(0, 0, 90);
        DUE.is("SIZE 9 on it, SIZE 9 to the right twice 45", x.lies(0, NONE), 2);
        DUE.is("on it", x.lies(0, 0), 9);
        DUE.is("to the right", x.lies(0, 1), 19);
        DUE.is("alike at CELL 0, 45 and 90 at CELL 1", x.lies(0, STAND), 1);
    }

    // What fitted in a greater valley must not be seen in the next one.
    private static void liesInALesserValley() {
        GoldByEar x = Ground.of("g6 6 0;");
        DUE.is("all fits", x.lies(0, NONE), 324);
        Ground.tell(x, "g2 1 0;");
        x.hear(0, 0, 10);
        DUE.is("two fit", x.lies(0, NONE), 2);
        DUE.is("the second", x.lies(0, 1), 12);
        for (int i = 2; i < 40; i++) {
            DUE.is("no " + i + "-th", x.lies(0, i), NONE);
        }
        DUE.is("parted at CELL 1", x.lies(0, STAND), 1);
    }

    // 'POSTS: the fewest CELLS (0 .. 4)'
    private static void postsNoneToFour() {
        String[] lumps = {"l0 0 0 1;", "l5 0 1 1;", "l0 5 2 1;", "l5 5 3 1;", "l3 3 4 1;"};
        int[][] due = {{}, {0}, {0, 5}, {0, 5, 30}, {0, 5, 30, 35}};
        String text = "g6 6 0;n9;";
        for (int k = 0; k <= 4; k++) {
            GoldByEar x = Ground.of(text);
            DUE.is(k + " PITCHES, each on its own CELL alone", x.posts(NONE), k);
            for (int i = 0; i < k; i++) {
                DUE.is("the " + i + "-th of " + k, x.posts(i), due[k][i]);
            }
            DUE.is("no more than " + k, x.posts(k), NONE);
            text += lumps[k];
        }
        GoldByEar x = Ground.of(text);
        for (int i = -1; i < 5; i++) {
            DUE.is("five are too many: posts(" + i + ")", x.posts(i), NONE);
        }
        DUE.is("no CELLS, no LUMPS: 0", new GoldByEar().posts(NONE), 0);
        GoldByEar y = Ground.of("g1 1 0;l0 0 0 1;n10;");
        DUE.is("10 is not more than 10", y.posts(NONE), NONE);
        y.dig();
        DUE.is("what is dug out need not be heard", y.posts(NONE), 0);
    }

    private static void postsBeyond() {
        GoldByEar x = Ground.of("g6 6 0;n9;l0 0 0 1;l5 0 1 1;l0 5 2 1;l5 5 3 1;");
        for (int i : new int[] {4, 5, 36, GREATEST, -2, -3, LEAST}) {
            DUE.is("posts(" + i + ")", x.posts(i), NONE);
        }
    }

    // 'ORDER of digging within n HOURS (0 .. 60)'
    private static void orderNoHours() {
        GoldByEar x = Ground.of(ONE);
        DUE.is("in no HOURS, on a LUMP", x.order(0, NONE), 0);
        for (int i = 0; i < 8; i++) {
            DUE.is("in no HOURS, no " + i + "-th", x.order(0, i), NONE);
        }
        DUE.is("in one HOUR, on a LUMP", x.order(1, NONE), 1);
        DUE.is("in one HOUR, the first", x.order(1, 0), 0);
        DUE.is("in 60 HOURS", x.order(60, NONE), 1);
        x.dig();
        DUE.is("dug out", x.order(60, NONE), 0);
        DUE.is("no LUMPS", Ground.of("g6 6 0;").order(60, NONE), 0);
        DUE.is("no CELLS, in no HOURS", new GoldByEar().order(0, NONE), 0);
        DUE.is("no CELLS, in 60", new GoldByEar().order(60, 0), NONE);
    }

    private static void orderJustInTime() {
        GoldByEar x = Ground.of("g6 6 0;l5 5 0 9;l0 0 1 1;");
        DUE.is("in 10 HOURS he only comes there", x.order(10, NONE), 1);
        DUE.is("in 11 HOURS it is out", x.order(11, NONE), 9);
        DUE.is("in 11 HOURS", x.order(11, 0), 0);
        DUE.is("in 12 HOURS both are", x.order(12, NONE), 10);
        DUE.is("in 12 HOURS the near one first", x.order(12, 0), 1);
        DUE.is("in 12 HOURS the far one next", x.order(12, 1), 0);
        DUE.is("in 60 HOURS the way of fewest", x.order(60, 0), 1);
        x.drift(99);
        DUE.is("from now: HOURS that were do not count", x.order(12, NONE), 10);
    }

    // 'of like ones the one of fewest HOURS, then the first'
    private static void orderOfLikeGold() {
        GoldByEar x = Ground.of("g6 1 0;l2 0 0 3;l4 0 0 3;l5 0 0 3;l0 0 0 3;");
        x.walk(3);
        DUE.is("two in 5 HOURS", x.order(5, NONE), 6);
        DUE.is("1, 2 in 4 HOURS ahead of 0, 1 and 0, 3 in 5", x.order(5, 0), 1);
        DUE.is("then 2", x.order(5, 1), 2);
        GoldByEar y = Ground.of("g6 1 0;l2 0 0 3;l4 0 0 3;l5 0 0 3;l1 0 0 2;");
        y.walk(3);
        DUE.is("3 and 3 in 4 HOURS", y.order(4, NONE), 6);
        DUE.is("ahead of 3 and 2 in as many", y.order(4, 0), 1);
    }

    // 'else the i-th; NONE: not so many'
    private static void orderBeyond() {
        GoldByEar x = Ground.of(SEVEN);
        DUE.holds("the seventh", x.order(60, 6) != NONE);
        for (int i : new int[] {7, 8, 32, GREATEST, -2, -3, LEAST}) {
            DUE.is("order(60, " + i + ")", x.order(60, i), NONE);
        }
    }

    // 'of which none is LOUDER than NOISE at the CELL of another one (no ECHOES)'
    private static void claimsNotLouder() {
        GoldByEar x = Ground.of("g2 1 1;l0 0 0 9;l1 0 0 9;n45;");
        DUE.is("45 is not LOUDER than 45", x.claims(0), 18);
        DUE.is("both, no ECHOES", x.claims(1), 3);
        x.noise(44);
        DUE.is("45 is LOUDER than 44", x.claims(0), 9);
        DUE.is("of like ones the least SET", x.claims(1), 1);
        x.noise(90);
        x.blow(3);
        DUE.is("twice 45 is not LOUDER than 90", x.claims(1), 3);
        x.noise(89);
        DUE.is("it is LOUDER than 89", x.claims(1), 1);
        x.noise(0);
        DUE.is("one alone is never LOUDER at another one's", x.claims(0), 9);
        GoldByEar y = Ground.of("g6 6 0;l0 0 0 1;l5 5 0 1;n0;");
        DUE.is("nothing is not LOUDER than NOISE 0", y.claims(1), 3);
    }

    private static void claimsOfNone() {
        DUE.is("no CELLS: SIZE", new GoldByEar().claims(0), 0);
        DUE.is("no CELLS: the SET", new GoldByEar().claims(1), 0);
        GoldByEar x = Ground.of("g6 6 0;");
        DUE.is("no LUMPS: SIZE", x.claims(0), 0);
        DUE.is("no LUMPS: the SET", x.claims(1), 0);
        GoldByEar z = Ground.of(ONE);
        DUE.is("one of SIZE 1: SIZE", z.claims(0), 1);
        DUE.is("one of SIZE 1: the SET", z.claims(1), 1);
        GoldByEar y = Ground.of("g6 6 0;n99;l0 0 0 9;l1 0 0 9;l2 0 0 9;l3 0 0 9;l4 0 0 9;l5 0 0 9;l0 1 0 9;");
        DUE.is("all seven: SIZE", y.claims(0), 63);
        DUE.is("all seven: the SET", y.claims(1), 127);
        y.dig();
        DUE.is("all but what is out", y.claims(1), 126);
    }

    // 'k parts of 10 (0 .. 10) of the first, the rest of the second'
    private static void alloyEnds() {
        GoldByEar x = new GoldByEar();
        DUE.is("k 10 is all of the first", x.alloy(11, 0, 11), 1024);
        DUE.is("k 0 is all of the second", x.alloy(0, 11, 11), 1);
        DUE.is("none of the second", x.alloy(11, 0, 0), 1);
        DUE.is("PITCHES 0", x.alloy(0, 0, 0), 2047);
        DUE.is("PITCHES 11", x.alloy(11, 11, 11), 2047);
        DUE.is("not reached", x.alloy(0, 1, 2), 0);
        for (int a = 0; a <= 11; a++) {
            for (int b = 0; b <= 11; b++) {
                int all = 0;
                for (int pitch = 0; pitch <= 11; pitch++) {
                    int set = x.alloy(a, b, pitch);
                    DUE.is("no k in two SETS", all & set, 0);
                    all |= set;
                }
                DUE.is("each k makes one PITCH of " + a + ", " + b, all, 2047);
            }
        }
    }

    // 'NOISE is 10 more for the other one then'
    private static void humAboveAllNoise() {
        // 112 is more than 99 and 10: humming takes nothing away, so it only costs.
        GoldByEar x = Ground.of("g1 1 1;l0 0 0 9;h0 0 0;h0 0 0;n99;");
        DUE.is("112 against 109", x.hum(0, 1), 1);
        GoldByEar y = Ground.of("g2 1 0;l0 0 0 9;l1 0 0 4;h0 0 0;h0 0 0;n99;");
        DUE.is("90 and 20", y.sounds(0, 0), 110);
        DUE.is("110 against 109", y.hum(0, 1), 1);
        // From here on humming takes the other one's only PITCH: as much as it costs.
        GoldByEar z = Ground.of("g5 1 0;l0 0 0 9;l1 0 0 3;l4 0 0 2;h0 0 0;h0 0 0;n99;");
        DUE.is("90 and 15 and 4", z.sounds(0, 0), 109);
        DUE.is("109 against 109", z.hum(0, 1), 15);
        GoldByEar w = Ground.of("g2 1 0;l0 0 0 9;l1 0 0 2;h0 0 0;h0 0 0;n99;");
        DUE.is("90 and 10", w.sounds(0, 0), 100);
        DUE.is("100 against 109", w.hum(0, 1), 15);
        DUE.is("NOISE itself is as it was", w.told(7), 99);
    }

    // 'pairs at which neither has more by doing otherwise'
    private static void humWantsLike() {
        GoldByEar x = Ground.of(ONE);
        DUE.is("a good EAR and EAR 1: each takes the other's PITCH, as much as it costs", x.hum(0, 1), 15);
        DUE.is("the deaf may hum or not, the other one does not", x.hum(0, 2), 5);
        DUE.is("the other way", x.hum(2, 0), 3);
        x.dig();
        DUE.is("nothing is HEARD: humming only costs", x.hum(0, 1), 1);
    }

    // 'if a SET of LUMPS were out, too'
    private static void stillNoneAndAll() {
        GoldByEar x = Ground.of(SEVEN);
        x.noise(0);
        DUE.is("none", x.still(0, 0), 127);
        DUE.is("all", x.still(0, 127), 0);
        for (int l = 0; l < 7; l++) {
            DUE.is("all but LUMP " + l, x.still(14, 127 & ~(1 << l)), 1 << l);
            DUE.is("LUMP " + l + " alone", x.still(14, 1 << l), 127 & ~(1 << l));
        }
        x.dig();
        DUE.is("what is out already, too", x.still(0, 1), 126);
        DUE.is("what is out stays out", x.still(0, 0), 126);
        DUE.is("nothing is out by it", x.told(10), 1);
        DUE.is("no LUMPS, no SET", Ground.of("g1 1 0;").still(0, 0), 0);
    }

    // 'in n HOURS (0 .. 60) .. by q of a hundred each: .. (cut)'; 'q 0 .. 100'
    private static void trainEnds() {
        GoldByEar x = new GoldByEar();
        for (int q = 0; q <= 100; q++) {
            DUE.is("train(0, " + q + ")", x.train(0, q), 1000000000);
            DUE.is("train(1, " + q + ")", x.train(1, q), 10000000 * (100 - q));
        }
        for (int n = 0; n <= 60; n++) {
            DUE.is("train(" + n + ", 0)", x.train(n, 0), 1000000000);
            DUE.is("train(" + n + ", 100)", x.train(n, 100), n == 0 ? 1000000000 : 0);
        }
        DUE.is("train(60, 99)", x.train(60, 99), 0);
        long odds = 1000000000L;
        for (int hour = 1; hour <= 60; hour++) {
            odds -= (odds + 99) / 100;
            DUE.is("train(" + hour + ", 1), cut each HOUR", x.train(hour, 1), (int) odds);
        }
    }

    // 'THE BOOK (15 at most) tells PITCHES that HEARERS HEAR (SETS 0 .. 4095)'
    private static void bookAtMost() {
        GoldByEar x = Ground.of(ONE);
        DUE.is("the least SET", x.write(0, 0), 1);
        DUE.is("the greatest SET", x.write(2, 4095), 2);
        for (int k = 3; k <= 15; k++) {
            DUE.is("write the " + k + "th", x.write(1, k), k);
        }
        DUE.is("write the 16th", x.write(0, 0), GoldByEar.FULL);
        DUE.is("told(13)", x.told(13), 15);
        DUE.is("tear()", x.tear(), 15);
        DUE.is("there is room again", x.write(0, 0), 1);
    }

    // 'WRONG: the first that is otherwise now; NONE'
    private static void judgeFirst() {
        GoldByEar x = Ground.of(ONE);
        DUE.is("no BOOK", x.judge(), NONE);
        for (int k = 0; k < 14; k++) {
            x.write(k % 2, 1);
        }
        DUE.is("all are right", x.judge(), NONE);
        x.write(2, 1);
        DUE.is("the last is wrong", x.judge(), 14);
        x.stand(0, 0);
        x.noise(10);
        DUE.is("now the first is", x.judge(), 0);
        x.undo();
        DUE.is("as ahead of it", x.judge(), 14);
        x.tear();
        x.write(0, 3);
        DUE.is("a PITCH too many", x.judge(), 0);
        x.tear();
        x.write(0, 0);
        DUE.is("a PITCH too few", x.judge(), 0);
        x.dig();
        DUE.is("it is out now", x.judge(), NONE);
    }

    // 'No HEARINGS, THE BOOK is empty: how many both had'
    private static void tearEmpty() {
        GoldByEar x = Ground.of(ONE);
        DUE.is("none", x.tear(), 0);
        DUE.is("no CELLS", new GoldByEar().tear(), 0);
        for (int k = 0; k < 15; k++) {
            x.hear(0, 0, 10);
            x.write(0, 0);
        }
        DUE.is("both are full", x.tear(), 23);
        DUE.is("none again", x.tear(), 0);
        DUE.is("told(12)", x.told(12), 0);
        DUE.is("told(13)", x.told(13), 0);
        DUE.is("it cannot be undone", x.undo(), NOT);
    }

    // 'THE SEED becomes v (0 .. 2147483647): what it was'
    private static void seedEnds() {
        GoldByEar x = new GoldByEar();
        DUE.is("0 at first", x.seed(2147483647), 0);
        DUE.is("the greatest", x.seed(0), 2147483647);
        DUE.is("the least", x.seed(1), 0);
        DUE.is("below it", x.seed(-1), GoldByEar.OUTSIDE);
        DUE.is("it stays then", x.seed(0), 1);
    }

    // 'it becomes it times 1103515245 and 12345, left over by 2 to the 31'
    private static void seedLeftOver() {
        BigInteger times = BigInteger.valueOf(1103515245);
        BigInteger by = BigInteger.TWO.pow(31);
        for (int v : new int[] {0, 1, 2, 65535, 65536, 1073741823, 1073741824, 2147418112, 2147483646, 2147483647}) {
            GoldByEar x = Ground.of("g1 1 0;n99;");
            x.seed(v);
            BigInteger seed = BigInteger.valueOf(v);
            int wind = 0;
            int noise = 99;
            for (int hour = 0; hour < 30; hour++) {
                seed = seed.multiply(times).add(BigInteger.valueOf(12345)).mod(by);
                int what = seed.intValueExact() / 65536 % 3;
                if (what < 2) {
                    seed = seed.multiply(times).add(BigInteger.valueOf(12345)).mod(by);
                    wind = what == 0 ? seed.intValueExact() / 65536 % 5 : wind;
                    noise = what == 1 ? seed.intValueExact() / 65536 % 30 : noise;
                }
                x.drift(1);
                DUE.is("from " + v + ": WIND", x.told(6), wind);
                DUE.is("from " + v + ": NOISE", x.told(7), noise);
            }
            GoldByEar y = Ground.of("g1 1 0;n99;");
            y.seed(v);
            y.drift(30);
            DUE.is("30 HOURS at once: WIND", y.told(6), wind);
            DUE.is("30 HOURS at once: NOISE", y.told(7), noise);
            DUE.is("30 HOURS at once: THE SEED", y.seed(0), seed.intValueExact());
            DUE.is("from " + v + ": THE SEED", x.seed(0), seed.intValueExact());
        }
    }

    // 'n HOURS (1 .. 99) BY DRAWS: HOURS'
    private static void driftEnds() {
        GoldByEar x = Ground.of(ONE);
        DUE.is("one HOUR", x.drift(1), 1);
        DUE.is("99 HOURS", x.drift(99), 100);
        DUE.is("each is one that can be undone", x.told(14), 2);
        int seed = x.seed(0);
        x.seed(seed);
        DUE.is("99 HOURS undone at once", x.undo(), 1);
        DUE.is("HOURS", x.told(8), 1);
        DUE.is("THE SEED stays", x.seed(0), seed);
        GoldByEar y = Ground.of("g1 1 0;");
        DUE.is("a valley without LUMPS", y.drift(5), 5);
    }

    // '(20 at most are kept, the oldest are lost)'
    private static void undoneTwenty() {
        GoldByEar x = Ground.of(ONE);
        for (int n = 1; n <= 20; n++) {
            x.noise(n);
            DUE.is("told(14)", x.told(14), n);
        }
        for (int k = 19; k >= 0; k--) {
            DUE.is("undo()", x.undo(), k);
        }
        DUE.is("twenty: all are undone", x.told(7), 5);
        for (int n = 1; n <= 21; n++) {
            x.noise(n);
        }
        DUE.is("the 21st: still twenty", x.told(14), 20);
        for (int k = 19; k >= 0; k--) {
            DUE.is("undo()", x.undo(), k);
        }
        DUE.is("the oldest one is lost", x.told(7), 1);
        DUE.is("no more", x.undo(), NOT);
    }

    private static void undoneWrapsAround() {
        GoldByEar x = Ground.of(ONE);
        for (int n = 0; n < 73; n++) {
            x.noise(n);
        }
        for (int k = 0; k < 7; k++) {
            DUE.is("undo()", x.undo(), 19 - k);
            DUE.is("NOISE", x.told(7), 71 - k);
        }
        for (int n = 80; n < 90; n++) {
            x.noise(n);
        }
        DUE.is("twenty again", x.told(14), 20);
        for (int k = 0; k < 10; k++) {
            DUE.is("undo()", x.undo(), 19 - k);
            DUE.is("NOISE", x.told(7), k < 9 ? 88 - k : 65);
        }
        for (int k = 0; k < 10; k++) {
            DUE.is("undo()", x.undo(), 9 - k);
            DUE.is("NOISE", x.told(7), 64 - k);
        }
        DUE.is("no more", x.undo(), NOT);
    }

    // 'the latest of blow(), noise(), stand(), walk(), dig(), drift() that was not refused'
    private static void undoneOnlyWhatWasDone() {
        GoldByEar x = Ground.of(ONE);
        x.noise(20);
        x.noise(100);
        x.blow(5);
        x.stand(0, 1);
        x.walk(1);
        x.drift(0);
        x.hear(0, 0, 1);
        x.write(0, 0);
        x.seed(4);
        x.lies(0, NONE);
        x.order(9, NONE);
        x.posts(NONE);
        x.feed('x');
        x.valley();
        DUE.is("one can be undone", x.told(14), 1);
        DUE.is("undo()", x.undo(), 0);
        DUE.is("NOISE", x.told(7), 5);
        DUE.is("HEARINGS stay", x.told(12), 1);
        DUE.is("THE BOOK stays", x.told(13), 1);
        DUE.is("THE SEED stays", x.seed(0), 4);
        GoldByEar y = new GoldByEar();
        y.blow(3);
        y.noise(40);
        DUE.is("without CELLS, too", y.undo(), 1);
        DUE.is("NOISE untold", y.told(7), 5);
        DUE.is("and WIND", y.undo(), 0);
        DUE.is("none", y.told(6), 0);
    }

    // 'WIND, NOISE, where HEARERS and the DIGGER are, what is out, HOURS are as ahead of it'
    private static void undoBringsBackAll() {
        GoldByEar x = Ground.of("g2 2 0;l1 1 0 5;l0 0 1 5;h0 0 0;h0 1 1;h1 0 0;h1 1 2;n7;");
        x.blow(2);
        x.undo();
        DUE.is("WIND", x.told(6), 0);
        x.noise(0);
        x.undo();
        DUE.is("NOISE", x.told(7), 7);
        for (int h = 0; h < 4; h++) {
            x.stand(h, 3 - x.hearer(h, 0));
            x.undo();
            DUE.is("HEARER " + h, x.hearer(h, 0), new int[] {0, 2, 1, 3}[h]);
        }
        x.walk(3);
        x.undo();
        DUE.is("the DIGGER", x.told(9), 0);
        DUE.is("HOURS", x.told(8), 0);
        x.dig();
        x.walk(3);
        x.dig();
        DUE.is("both are out", x.told(10), 3);
        x.undo();
        DUE.is("what is out", x.told(10), 2);
        DUE.is("GOLD", x.told(11), 5);
        DUE.is("HOURS", x.told(8), 3);
        x.undo();
        DUE.is("the DIGGER walks back", x.told(9), 0);
        x.undo();
        DUE.is("nothing is out", x.told(10), 0);
        DUE.is("nothing can be undone", x.told(14), 0);
    }

    // 'The latest is undone: how many more can be'
    private static void undoIsNotDone() {
        GoldByEar x = Ground.of(ONE);
        x.blow(1);
        x.blow(2);
        DUE.is("undo()", x.undo(), 1);
        DUE.is("undo() is not undone by undo()", x.undo(), 0);
        DUE.is("WIND", x.told(6), 0);
        x.blow(3);
        DUE.is("what came behind is gone", x.undo(), 0);
        DUE.is("undo()", x.undo(), NOT);
    }

    // 'IMAGE i becomes what is so', 'What is so becomes IMAGE i (nothing can be undone then)'
    private static void imagesKeptAnew() {
        GoldByEar x = Ground.of(ONE);
        for (int n = 30; n < 34; n++) {
            x.noise(n);
            x.seed(n);
            DUE.is("keep(1)", x.keep(1), 1);
            DUE.is("nothing can be undone", x.told(14), 0);
        }
        x.noise(50);
        x.seed(50);
        for (int k = 0; k < 3; k++) {
            DUE.is("goBack(1)", x.goBack(1), 1);
            DUE.is("the latest that was kept", x.told(7), 33);
            DUE.is("its SEED", x.seed(7), 33);
            DUE.is("nothing can be undone", x.undo(), NOT);
            x.noise(k);
        }
        DUE.is("keep(0)", x.keep(0), 1);
        DUE.is("goBack(0)", x.goBack(0), 1);
        DUE.is("what was so", x.told(7), 2);
        DUE.is("keep(2)", x.keep(2), UNKNOWN);
    }

    private static void imagesStay() {
        GoldByEar x = Ground.of(ONE);
        x.keep(0);
        for (int n = 0; n < 25; n++) {
            x.noise(n + 40);
        }
        x.undo();
        x.dig();
        x.drift(50);
        x.tear();
        DUE.is("goBack(0)", x.goBack(0), 1);
        DUE.is("NOISE", x.told(7), 5);
        DUE.is("what is out", x.told(10), 0);
        DUE.is("HOURS", x.told(8), 0);
        x.keep(1);
        x.dig();
        x.keep(0);
        x.goBack(1);
        DUE.is("IMAGE 1 is not IMAGE 0", x.told(10), 0);
        x.goBack(0);
        DUE.is("IMAGE 0", x.told(10), 1);
        DUE.is("GOLD", x.told(11), 1);
        DUE.is("dig() as it was", x.dig(), NOT);
    }

    // 'IMAGES 0, 1 keep these, THE SEED': not HEARINGS, THE BOOK, THE TEXT
    private static void imagesWithoutHearings() {
        GoldByEar x = Ground.of(ONE);
        x.hear(0, 0, 10);
        x.write(0, 1);
        x.feed('g');
        x.keep(0);
        x.hear(0, 0, 20);
        x.write(0, 2);
        x.write(0, 3);
        x.feed('1');
        x.goBack(0);
        DUE.is("HEARINGS", x.told(12), 2);
        DUE.is("entries of THE BOOK", x.told(13), 3);
        DUE.is("letters of THE TEXT", x.told(5), 2);
        x.tear();
        x.goBack(0);
        DUE.is("what was torn is not brought back", x.told(12) + x.told(13), 0);
    }

    // '0 W .. 14 how many can be undone. OUTSIDE.'
    private static void toldAtItsEnds() {
        GoldByEar x = Ground.of("g6 5 1;");
        x.blow(1);
        DUE.is("told(0)", x.told(0), 6);
        DUE.is("told(1)", x.told(1), 5);
        DUE.is("told(14)", x.told(14), 1);
        for (int what : new int[] {-1, 15, 16, 256, LEAST, GREATEST}) {
            DUE.is("told(" + what + ")", x.told(what), GoldByEar.OUTSIDE);
        }
    }
}
