/** Promises 17 to 23: posts, order, claims, alloy, hum, still, train. */
public final class TriedTest {
    private static final Due DUE = new Due("TriedTest");
    private static final int NONE = GoldByEar.NONE;

    public static void main(String[] args) {
        posts();
        postsUpToFour();
        postsByEchoAndWind();
        order();
        orderOfLikeOnes();
        orderFromNow();
        claims();
        claimsOfLikeOnes();
        alloy();
        hum();
        still();
        train();
        nothingChanges();
        DUE.end();
    }

    private static int[] posts(GoldByEar x) {
        int count = Math.max(0, x.posts(NONE));
        int[] all = new int[count];
        for (int i = 0; i < count; i++) {
            all[i] = x.posts(i);
        }
        return all;
    }

    private static int[] row(GoldByEar x, int n) {
        int count = 0;
        while (count < 8 && x.order(n, count) != NONE) {
            count++;
        }
        int[] all = new int[count];
        for (int i = 0; i < count; i++) {
            all[i] = x.order(n, i);
        }
        return all;
    }

    private static void posts() {
        // One off a lump of size 1 it is 5 loud, on its cell 10.
        GoldByEar x = Ground.of("g6 1 0;l0 0 0 1;l5 0 1 1;n9;");
        DUE.are("only on the cells of both", posts(x), 0, 5);
        x.noise(4);
        DUE.are("the first of like ones", posts(x), 0, 4);
        x.noise(2);
        DUE.are("the first of like ones, two off", posts(x), 0, 3);
        x.noise(1);
        DUE.are("one place hears both", posts(x), 1);
        x.noise(10);
        DUE.is("nowhere loud enough", x.posts(NONE), NONE);
        DUE.is("nowhere: the first", x.posts(0), NONE);
        x.noise(9);
        x.dig();
        DUE.are("one is out", posts(x), 5);
        x.walk(5);
        x.dig();
        DUE.is("all are out", x.posts(NONE), 0);
        DUE.is("all are out: the first", x.posts(0), NONE);
        DUE.is("posts(-2)", x.posts(-2), NONE);
        DUE.is("posts(9)", x.posts(9), NONE);
        DUE.is("posts(least)", x.posts(Integer.MIN_VALUE), NONE);
        DUE.is("posts(greatest)", x.posts(Integer.MAX_VALUE), NONE);
        GoldByEar y = Ground.of("g2 2 0;n5;h0 0 0;");
        DUE.is("no lumps", y.posts(NONE), 0);
        GoldByEar z = Ground.of("g6 1 0;l0 0 4 1;l5 0 4 1;n9;");
        DUE.are("a pitch that two lumps have is heard once", posts(z), 0);
    }

    private static void postsUpToFour() {
        GoldByEar x = Ground.of("g6 6 0;l4 5 0 1;l0 0 1 1;l2 2 2 1;l5 1 3 1;n9;");
        DUE.are("four", posts(x), 0, 11, 14, 34);
        DUE.is("posts(4)", x.posts(4), NONE);
        GoldByEar y = Ground.of("g6 6 0;l4 5 0 1;l0 0 1 1;l2 2 2 1;l5 1 3 1;l0 4 4 1;n9;");
        DUE.is("five are too many", y.posts(NONE), NONE);
        DUE.is("five are too many: the first", y.posts(0), NONE);
        y.walk(14);
        y.dig();
        DUE.are("four are left", posts(y), 0, 11, 24, 34);
        // Seven pitches in two heaps: 10 on the cell, 5 beside it, 3 two off.
        GoldByEar w = Ground.of("g6 6 0;l0 0 11 1;l1 0 0 1;l0 1 10 1;l5 5 5 1;l4 5 3 1;l5 4 7 1;l5 3 1 1;n3;");
        DUE.are("seven pitches, three places: pitch 1 from above, the others from the corners", posts(w), 0, 17, 35);
        w.noise(2);
        DUE.are("seven pitches, two places", posts(w), 0, 28);
        w.noise(9);
        DUE.is("seven pitches, each on its cell alone", w.posts(NONE), NONE);
        GoldByEar z = Ground.of("g3 1 0;l0 0 0 2;l1 0 1 2;l2 0 2 2;n9;");
        DUE.are("one in the middle hears three", posts(z), 1);
        z.noise(10);
        DUE.are("three, each its own", posts(z), 0, 1, 2);
    }

    private static void postsByEchoAndWind() {
        GoldByEar x = Ground.of("g3 1 1;l2 0 0 3;n30;");
        DUE.are("an echo is heard, too", posts(x), 2);
        x.noise(15);
        DUE.are("15 and 30 / 3 / 2", posts(x), 1);
        x.blow(3);
        DUE.are("wind to the left", posts(x), 0);
    }

    private static void order() {
        GoldByEar x = Ground.of(Ground.FIVE_BY_FOUR);
        DUE.is("order(0, NONE)", x.order(0, NONE), 0);
        DUE.are("in 2 hours", row(x, 2));
        DUE.are("in 3 hours", row(x, 3), 0);
        DUE.is("order(3, NONE)", x.order(3, NONE), 6);
        DUE.are("in 4 hours", row(x, 4), 1);
        DUE.is("order(4, NONE)", x.order(4, NONE), 9);
        DUE.are("in 7 hours", row(x, 7), 0, 1);
        DUE.is("order(7, NONE)", x.order(7, NONE), 15);
        DUE.are("in 60 hours", row(x, 60), 0, 1, 2, 3);
        DUE.is("order(60, NONE)", x.order(60, NONE), 21);
        DUE.is("order(-1, NONE)", x.order(-1, NONE), GoldByEar.OUTSIDE);
        DUE.is("order(61, 0)", x.order(61, 0), GoldByEar.OUTSIDE);
        DUE.is("order(60, 4)", x.order(60, 4), NONE);
        DUE.is("order(60, 7)", x.order(60, 7), NONE);
        DUE.is("order(60, -2)", x.order(60, -2), NONE);
        DUE.is("order(60, least)", x.order(60, Integer.MIN_VALUE), NONE);
        DUE.is("order(60, greatest)", x.order(60, Integer.MAX_VALUE), NONE);
    }

    private static void orderOfLikeOnes() {
        GoldByEar x = Ground.of("g3 1 0;l2 0 0 5;l1 0 1 5;");
        DUE.are("fewest hours ahead of the lesser lump", row(x, 3), 1);
        DUE.are("in 4 hours", row(x, 4), 1, 0);
        DUE.are("in 60 hours", row(x, 60), 1, 0);
        GoldByEar y = Ground.of("g3 1 0;l2 0 0 5;l0 0 1 5;");
        y.walk(1);
        DUE.are("the lesser lump of two as far", row(y, 2), 0);
        DUE.are("the lesser lump first", row(y, 5), 0, 1);
        DUE.are("not both in 4", row(y, 4), 0);
        // 4 and 2 in as many hours as 3 and 3: rows 0, 1 and 2, 3 from the middle.
        GoldByEar z = Ground.of("g5 1 0;l1 0 0 3;l0 0 1 3;l3 0 2 4;l4 0 3 2;");
        z.walk(2);
        DUE.are("of sets as good the lesser row", row(z, 4), 0, 1);
        GoldByEar v = Ground.of("g5 1 0;l1 0 0 4;l3 0 1 3;l4 0 2 3;l0 0 3 2;");
        v.walk(2);
        DUE.are("likewise, sets the other way", row(v, 4), 0, 3);
        GoldByEar w = Ground.of("g4 1 0;l0 0 0 1;l3 0 1 3;l1 0 2 1;");
        DUE.are("most gold ahead of fewest hours", row(w, 4), 1);
        DUE.is("its gold", w.order(4, NONE), 3);
        DUE.are("in 3 hours", row(w, 3), 0, 2);
        GoldByEar u = Ground.of("g4 1 0;l0 0 0 1;l3 0 1 2;l1 0 2 1;");
        DUE.are("two of 1 in fewer hours than one of 2", row(u, 4), 0, 2);
    }

    private static void orderFromNow() {
        GoldByEar x = Ground.of("g6 6 0;l0 0 0 9;l5 5 1 9;l0 5 2 9;l5 0 3 9;l2 2 4 1;l3 3 5 1;l5 2 6 5;");
        DUE.is("all in 60", x.order(60, NONE), 43);
        DUE.are("the row of all", row(x, 60), 0, 2, 1, 5, 4, 6, 3);
        x.walk(35);
        x.dig();
        DUE.are("from the other end", row(x, 1));
        DUE.are("from the other end, 4 hours", row(x, 4), 6);
        DUE.are("from the other end, 7 hours", row(x, 7), 6, 3);
        DUE.is("hours that were do not count", x.told(8), 11);
    }

    private static void claims() {
        GoldByEar x = Ground.of("g2 1 1;l0 0 0 2;l1 0 1 3;n15;");
        DUE.is("10 and 15 are not louder than 15", x.claims(0), 5);
        DUE.is("both", x.claims(1), 3);
        x.blow(1);
        DUE.is("wind to the right: 20", x.claims(0), 3);
        DUE.is("the greater one", x.claims(1), 2);
        x.blow(3);
        DUE.is("wind to the left: 30", x.claims(1), 2);
        x.blow(0);
        x.noise(14);
        DUE.is("15 is louder than 14", x.claims(1), 2);
        x.walk(1);
        x.dig();
        DUE.is("the greater one is out", x.claims(0), 2);
        DUE.is("the other one is left", x.claims(1), 1);
        x.walk(0);
        x.dig();
        DUE.is("none is left", x.claims(0), 0);
        DUE.is("none is left: no SET", x.claims(1), 0);
        DUE.is("claims(2)", x.claims(2), GoldByEar.OUTSIDE);
        DUE.is("claims(-1)", x.claims(-1), GoldByEar.OUTSIDE);
    }

    private static void claimsOfLikeOnes() {
        GoldByEar x = Ground.of("g3 1 0;l0 0 0 5;l1 0 0 5;n10;");
        DUE.is("of like ones", x.claims(0), 5);
        DUE.is("the least SET", x.claims(1), 1);
        GoldByEar y = Ground.of("g6 1 0;l2 0 0 6;l0 0 0 3;l5 0 0 3;n19;");
        DUE.is("3 and 3 or 6 alone or 6 and the far 3", y.claims(0), 9);
        DUE.is("6 and one that it does not drown", y.claims(1), 5);
        GoldByEar z = Ground.of("g3 1 0;l1 0 0 6;l0 0 0 3;l2 0 0 3;n10;");
        DUE.is("6 alone or 3 and 3", z.claims(0), 6);
        DUE.is("the least SET of these", z.claims(1), 1);
    }

    private static void alloy() {
        GoldByEar x = new GoldByEar();
        DUE.is("alloy(2, 9, 5)", x.alloy(2, 9, 5), 32);
        DUE.is("alloy(2, 9, 2)", x.alloy(2, 9, 2), 1536);
        DUE.is("alloy(9, 2, 2)", x.alloy(9, 2, 2), 3);
        DUE.is("alloy(0, 11, 11)", x.alloy(0, 11, 11), 1);
        DUE.is("alloy(0, 11, 0)", x.alloy(0, 11, 0), 1024);
        DUE.is("alloy(4, 4, 4)", x.alloy(4, 4, 4), 2047);
        DUE.is("alloy(4, 4, 5)", x.alloy(4, 4, 5), 0);
        DUE.is("alloy(0, 1, 0)", x.alloy(0, 1, 0), 2046);
        DUE.is("alloy(-1, 0, 0)", x.alloy(-1, 0, 0), GoldByEar.OUTSIDE);
        DUE.is("alloy(0, -1, 0)", x.alloy(0, -1, 0), GoldByEar.OUTSIDE);
        DUE.is("alloy(0, 0, -1)", x.alloy(0, 0, -1), GoldByEar.OUTSIDE);
        DUE.is("alloy(12, 0, 0)", x.alloy(12, 0, 0), GoldByEar.OUTSIDE);
        DUE.is("alloy(0, 12, 0)", x.alloy(0, 12, 0), GoldByEar.OUTSIDE);
        DUE.is("alloy(0, 0, 12)", x.alloy(0, 0, 12), GoldByEar.OUTSIDE);
    }

    private static void hum() {
        // By humming the first takes the second's only pitch: as much as it costs. The second takes none.
        GoldByEar x = Ground.of("g2 1 0;l0 0 0 2;h0 0 0;h1 0 0;n5;");
        DUE.is("neither, the first alone", x.hum(0, 1), 3);
        DUE.is("the other way: neither, the second alone", x.hum(1, 0), 5);
        DUE.is("hum(0, 0)", x.hum(0, 0), GoldByEar.UNKNOWN);
        DUE.is("hum(0, 2)", x.hum(0, 2), GoldByEar.UNKNOWN);
        DUE.is("hum(2, 0)", x.hum(2, 0), GoldByEar.UNKNOWN);
        DUE.is("hum(-1, 0)", x.hum(-1, 0), GoldByEar.UNKNOWN);
        DUE.is("hum(0, -1)", x.hum(0, -1), GoldByEar.UNKNOWN);
        GoldByEar y = Ground.of("g2 1 0;l0 0 0 2;l1 0 1 2;h0 0 0;h1 0 0;n5;");
        DUE.is("each takes as much as it costs", y.hum(0, 1), 15);
        y.noise(9);
        DUE.is("20 is more than 9 and 10", y.hum(0, 1), 15);
        y.noise(10);
        DUE.is("20 is not more than 10 and 10", y.hum(0, 1), 15);
        GoldByEar z = Ground.of("g3 1 0;l0 0 0 2;l2 0 1 2;h1 0 0;h1 0 0;h1 0 2;n5;");
        DUE.is("each takes two", z.hum(0, 1), 8);
        DUE.is("from the deaf there is nothing to take", z.hum(0, 2), 4);
        DUE.is("the deaf takes two", z.hum(2, 1), 2);
        z.noise(99);
        DUE.is("nothing is heard", z.hum(0, 1), 1);
        z.noise(0);
        DUE.is("10 is not more than 10", z.hum(0, 1), 8);
        z.walk(0);
        z.dig();
        DUE.is("one pitch is left", z.hum(0, 1), 15);
    }

    private static void still() {
        GoldByEar x = Ground.of(Ground.FIVE_BY_FOUR);
        DUE.is("still(8, 0)", x.still(8, 0), 132);
        DUE.is("still(8, 2)", x.still(8, 2), 4);
        DUE.is("still(8, 3)", x.still(8, 3), 4);
        DUE.is("still(8, 7)", x.still(8, 7), 0);
        DUE.is("still(8, 15)", x.still(8, 15), 0);
        x.walk(6);
        x.dig();
        DUE.is("still(8, 2), one is out", x.still(8, 2), 4);
        DUE.is("still(8, 4), one is out", x.still(8, 4), 128);
        DUE.is("still(8, 5), one is out already", x.still(8, 5), 128);
        DUE.is("lumps stay", x.told(10), 1);
        DUE.is("still(20, 0)", x.still(20, 0), GoldByEar.UNKNOWN);
        DUE.is("still(-1, 0)", x.still(-1, 0), GoldByEar.UNKNOWN);
        DUE.is("still(0, 16)", x.still(0, 16), GoldByEar.UNKNOWN);
        DUE.is("still(0, 17)", x.still(0, 17), GoldByEar.UNKNOWN);
        DUE.is("still(0, -1)", x.still(0, -1), GoldByEar.UNKNOWN);
        DUE.is("still(0, least)", x.still(0, Integer.MIN_VALUE), GoldByEar.UNKNOWN);
        GoldByEar y = Ground.of("g1 1 0;");
        DUE.is("no lumps: still(0, 0)", y.still(0, 0), 0);
        DUE.is("no lumps: still(0, 1)", y.still(0, 1), GoldByEar.UNKNOWN);
        GoldByEar z = Ground.of("g3 1 1;l2 0 4 3;n30;");
        DUE.is("an echo is heard, too", z.still(2, 0), 16);
    }

    private static void train() {
        GoldByEar x = new GoldByEar();
        DUE.is("train(0, 50)", x.train(0, 50), 1000000000);
        DUE.is("train(0, 100)", x.train(0, 100), 1000000000);
        DUE.is("train(1, 100)", x.train(1, 100), 0);
        DUE.is("train(60, 0)", x.train(60, 0), 1000000000);
        DUE.is("train(1, 1)", x.train(1, 1), 990000000);
        DUE.is("train(10, 10)", x.train(10, 10), 348678440);
        DUE.is("train(10, 50)", x.train(10, 50), 976562);
        // Cut hour by hour: 1953125, 976562, .. 3, 1, 0.
        DUE.is("train(29, 50)", x.train(29, 50), 1);
        DUE.is("train(30, 50)", x.train(30, 50), 0);
        // 1000000, 10000, .. 1, 0 by 99 of a hundred.
        DUE.is("train(4, 99)", x.train(4, 99), 10);
        DUE.is("train(5, 99)", x.train(5, 99), 0);
        DUE.is("train(-1, 0)", x.train(-1, 0), GoldByEar.OUTSIDE);
        DUE.is("train(61, 0)", x.train(61, 0), GoldByEar.OUTSIDE);
        DUE.is("train(0, -1)", x.train(0, -1), GoldByEar.OUTSIDE);
        DUE.is("train(0, 101)", x.train(0, 101), GoldByEar.OUTSIDE);
    }

    private static void nothingChanges() {
        GoldByEar x = Ground.of(Ground.FIVE_BY_FOUR);
        x.walk(3);
        x.blow(2);
        String before = Ground.state(x);
        x.posts(NONE);
        x.order(40, NONE);
        x.claims(1);
        x.alloy(1, 2, 1);
        x.hum(0, 1);
        x.still(3, 15);
        x.train(9, 9);
        x.lies(2, -2);
        DUE.holds("what is tried changes nothing", before.equals(Ground.state(x)));
    }
}
