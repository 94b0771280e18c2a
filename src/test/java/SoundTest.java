/** Promises 5 to 9: told, lump, hearer, loud, sounds. */
public final class SoundTest {
    private static final Due DUE = new Due("SoundTest");

    public static void main(String[] args) {
        told();
        lumps();
        hearers();
        ears();
        fooled();
        loud();
        wind();
        echo();
        sounds();
        DUE.end();
    }

    private static void told() {
        GoldByEar x = Ground.of(Ground.FIVE_BY_FOUR);
        Ground.feed(x, "g1");
        x.blow(3);
        x.noise(20);
        x.walk(6);
        x.dig();
        x.walk(3);
        x.dig();
        x.hear(0, 0, 0);
        x.hear(0, 0, 1);
        x.hear(0, 0, 2);
        x.write(0, 0);
        x.write(0, 0);
        int[] told = {5, 4, 1, 4, 4, 2, 3, 20, 7, 3, 3, 15, 3, 2, 6};
        for (int what = 0; what < told.length; what++) {
            DUE.is("told(" + what + ")", x.told(what), told[what]);
        }
        DUE.is("told(-1)", x.told(-1), GoldByEar.OUTSIDE);
        DUE.is("told(15)", x.told(15), GoldByEar.OUTSIDE);
        DUE.is("told(least)", x.told(Integer.MIN_VALUE), GoldByEar.OUTSIDE);
    }

    private static void lumps() {
        GoldByEar x = Ground.of(Ground.FIVE_BY_FOUR);
        int[][] all = {{6, 2, 6, 0}, {3, 7, 9, 0}, {19, 2, 4, 0}, {15, 9, 2, 0}};
        for (int l = 0; l < 4; l++) {
            for (int what = 0; what < 4; what++) {
                DUE.is("lump(" + l + ", " + what + ")", x.lump(l, what), all[l][what]);
            }
        }
        x.walk(19);
        x.dig();
        DUE.is("lump(2, 3), out", x.lump(2, 3), 1);
        DUE.is("lump(2, 0), out", x.lump(2, 0), 19);
        DUE.is("lump(1, 3), not out", x.lump(1, 3), 0);
        DUE.is("lump(4, 0)", x.lump(4, 0), GoldByEar.UNKNOWN);
        DUE.is("lump(-1, 0)", x.lump(-1, 0), GoldByEar.UNKNOWN);
        DUE.is("lump(4, 9)", x.lump(4, 9), GoldByEar.UNKNOWN);
        DUE.is("lump(0, 4)", x.lump(0, 4), GoldByEar.OUTSIDE);
        DUE.is("lump(0, -1)", x.lump(0, -1), GoldByEar.OUTSIDE);
    }

    private static void hearers() {
        GoldByEar x = Ground.of(Ground.FIVE_BY_FOUR);
        int[][] all = {{12, 0, 132, 0}, {9, 0, 132, 0}, {1, 1, 4, 0}, {18, 2, 0, 0}};
        for (int h = 0; h < 4; h++) {
            for (int what = 0; what < 4; what++) {
                DUE.is("hearer(" + h + ", " + what + ")", x.hearer(h, what), all[h][what]);
            }
        }
        DUE.is("hearer(4, 0)", x.hearer(4, 0), GoldByEar.UNKNOWN);
        DUE.is("hearer(-1, 0)", x.hearer(-1, 0), GoldByEar.UNKNOWN);
        DUE.is("hearer(4, 9)", x.hearer(4, 9), GoldByEar.UNKNOWN);
        DUE.is("hearer(0, 4)", x.hearer(0, 4), GoldByEar.OUTSIDE);
        DUE.is("hearer(0, -1)", x.hearer(0, -1), GoldByEar.OUTSIDE);
    }

    private static void ears() {
        // A lump on each cell of a row, sizes 3: 30, 15, 10 by how far.
        GoldByEar x = Ground.of("g3 2 0;l0 0 0 3;l1 0 1 3;l2 0 2 3;h1 0 0;h1 0 1;h1 0 2;h1 1 1;n9;");
        DUE.is("a good ear hears both sides", x.hearer(0, 2), 7);
        DUE.is("ear 1 hears left and its own column", x.hearer(1, 2), 3);
        DUE.is("ear 2 hears nothing", x.hearer(2, 2), 0);
        DUE.is("ear 1 below hears what is above it", x.hearer(3, 2), 3);
        x.noise(0);
        DUE.is("ear 2, no noise", x.hearer(2, 2), 0);
        DUE.is("ear 1, no noise", x.hearer(1, 2), 3);
        x.noise(15);
        DUE.is("just as loud as noise is not heard", x.hearer(0, 2), 2);
        x.noise(14);
        DUE.is("louder than noise is heard", x.hearer(0, 2), 7);
        x.walk(1);
        x.dig();
        DUE.is("what is out is not heard", x.hearer(0, 2), 5);
        GoldByEar y = Ground.of("g2 1 0;l0 0 5 1;l1 0 5 1;h0 0 0;h0 0 1;h1 0 1;n14;");
        DUE.is("lumps of a pitch sound together", y.hearer(0, 2), 32);
        DUE.is("ear 1 without the right one", y.hearer(1, 2), 0);
        DUE.is("ear 1 with both", y.hearer(2, 2), 32);
    }

    private static void fooled() {
        // Straight 30, over the wall 30 / 2 / 2.
        GoldByEar x = Ground.of("g3 1 1;l2 0 4 3;h2 0 0;h2 0 1;h2 0 2;n30;");
        DUE.is("heard by the echo", x.hearer(0, 2), 16);
        DUE.is("fooled by it", x.hearer(0, 3), 16);
        DUE.is("ear 1 does not hear the echo", x.hearer(1, 2), 0);
        DUE.is("ear 1 is not fooled", x.hearer(1, 3), 0);
        DUE.is("ear 2 is not fooled", x.hearer(2, 3), 0);
        x.noise(29);
        DUE.is("heard without it", x.hearer(0, 2), 16);
        DUE.is("not fooled then", x.hearer(0, 3), 0);
        DUE.is("ear 1 hears it straight", x.hearer(1, 2), 16);
        x.noise(36);
        DUE.is("fooled up to the whole", x.hearer(0, 3), 16);
        x.noise(37);
        DUE.is("not heard", x.hearer(0, 2), 0);
        DUE.is("not heard, not fooled", x.hearer(0, 3), 0);
    }

    private static void loud() {
        GoldByEar x = Ground.of(Ground.FIVE_BY_FOUR);
        DUE.is("loud on its own cell", x.loud(0, 6, false), 60);
        DUE.is("loud 1 off", x.loud(0, 7, false), 30);
        DUE.is("loud 2 off across", x.loud(0, 12, false), 20);
        DUE.is("loud, cut", x.loud(1, 15, false), 12);
        x.walk(6);
        x.dig();
        DUE.is("loud, out", x.loud(0, 6, false), 0);
        DUE.is("echo, out", x.loud(0, 6, true), 0);
        x.undo();
        DUE.is("loud, in again", x.loud(0, 6, false), 60);
        DUE.is("loud(4, 0)", x.loud(4, 0, false), GoldByEar.UNKNOWN);
        DUE.is("loud(-1, 0)", x.loud(-1, 0, false), GoldByEar.UNKNOWN);
        DUE.is("loud(0, 20)", x.loud(0, 20, false), GoldByEar.UNKNOWN);
        DUE.is("loud(0, -1)", x.loud(0, -1, true), GoldByEar.UNKNOWN);
    }

    private static void wind() {
        GoldByEar x = Ground.of("g3 3 1;l1 1 0 3;");
        int[] right = {10, 15, 20, 15, 30, 30, 10, 15, 20};
        int[] down = {10, 15, 10, 15, 30, 15, 20, 30, 20};
        int[] left = {20, 15, 10, 30, 30, 15, 20, 15, 10};
        int[] up = {20, 30, 20, 15, 30, 15, 10, 15, 10};
        int[] none = {10, 15, 10, 15, 30, 15, 10, 15, 10};
        int[][] all = {none, right, down, left, up};
        for (int wind = 0; wind < 5; wind++) {
            x.blow(wind);
            for (int cell = 0; cell < 9; cell++) {
                DUE.is("wind " + wind + ": loud(0, " + cell + ")", x.loud(0, cell, false), all[wind][cell]);
            }
            DUE.is("wind " + wind + " leaves the echo", x.loud(0, 5, true), 5);
        }
        GoldByEar y = Ground.of("g4 1 0;l0 0 0 1;");
        y.blow(1);
        DUE.is("cut, then doubled", y.loud(0, 2, false), 6);
    }

    private static void echo() {
        GoldByEar x = Ground.of("g5 4 1;l1 1 2 6;l4 3 2 4;");
        DUE.is("echo of (1,1) at (3,1)", x.loud(0, 8, true), 5);
        DUE.is("echo of (1,1) at (1,1)", x.loud(0, 6, true), 3);
        DUE.is("echo of (4,3) at (4,3)", x.loud(1, 19, true), 10);
        DUE.is("echo of (4,3) at (4,0)", x.loud(1, 4, true), 4);
        DUE.is("echo of (4,3) at (0,0)", x.loud(1, 0, true), 2);
        GoldByEar y = Ground.of("g5 4 0;l1 1 2 6;l4 3 2 4;");
        DUE.is("no wall, no echo", y.loud(1, 19, true), 0);
    }

    private static void sounds() {
        GoldByEar x = Ground.of(Ground.FIVE_BY_FOUR);
        DUE.is("sounds(8, 2)", x.sounds(8, 2), 39);
        DUE.is("sounds(12, 7)", x.sounds(12, 7), 28);
        DUE.is("a pitch that no lump has", x.sounds(8, 0), 0);
        x.walk(6);
        x.dig();
        DUE.is("sounds(8, 2) with one out", x.sounds(8, 2), 14);
        x.blow(4);
        DUE.is("sounds(8, 2) with one out, wind up", x.sounds(8, 2), 24);
        DUE.is("sounds(20, 0)", x.sounds(20, 0), GoldByEar.UNKNOWN);
        DUE.is("sounds(-1, 12)", x.sounds(-1, 12), GoldByEar.UNKNOWN);
        DUE.is("sounds(0, 12)", x.sounds(0, 12), GoldByEar.OUTSIDE);
        DUE.is("sounds(0, -1)", x.sounds(0, -1), GoldByEar.OUTSIDE);
        GoldByEar y = Ground.of("g3 2 0;l0 0 11 3;l1 0 11 3;l2 0 10 3;");
        DUE.is("two of a pitch, no wall", y.sounds(0, 11), 45);
        DUE.is("the other pitch", y.sounds(0, 10), 10);
    }
}
