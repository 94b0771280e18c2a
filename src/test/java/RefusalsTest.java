/**
 * Every refusal of every promise: UNKNOWN, OUTSIDE, NOT, FULL, of several the first in this order,
 * and each time that nothing has changed.
 */
public final class RefusalsTest {
    private static final Due DUE = new Due("RefusalsTest");
    private static final Twins TWINS = new Twins(DUE);
    private static final int UNKNOWN = GoldByEar.UNKNOWN;
    private static final int OUTSIDE = GoldByEar.OUTSIDE;
    private static final int NOT = GoldByEar.NOT;
    private static final int FULL = GoldByEar.FULL;
    private static final int LEAST = Integer.MIN_VALUE;
    private static final int GREATEST = Integer.MAX_VALUE;
    /** Of 20 cells, 4 lumps, 4 hearers there is none of these. */
    private static final int[] NO_CELL = {-1, 20, 36, LEAST, GREATEST};
    private static final int[] NO_LUMP = {-1, 4, 7, 32, LEAST, GREATEST};
    private static final int[] NO_PITCH = {-1, 12, LEAST, GREATEST};
    private static final int[] NO_IMAGE = {-2, -1, 2, 3, LEAST, GREATEST};

    public static void main(String[] args) {
        feed();
        told();
        lump();
        hearer();
        loud();
        sounds();
        blow();
        noise();
        stand();
        walk();
        dig();
        drift();
        undo();
        order();
        claims();
        alloy();
        hum();
        still();
        train();
        hear();
        lies();
        write();
        seed();
        keep();
        goBack();
        withoutCells();
        aboveTheLastHour();
        DUE.end();
    }

    /** Something of everything; image 0 is kept, image 1 is not; the digger stands on a lump that is out. */
    private static GoldByEar busy() {
        GoldByEar x = Ground.of(Ground.FIVE_BY_FOUR);
        x.seed(77);
        x.blow(4);
        x.keep(0);
        x.noise(7);
        x.stand(1, 13);
        x.walk(6);
        x.dig();
        x.hear(0, 2, 31);
        x.hear(19, 7, 5);
        x.write(0, 132);
        x.write(2, 0);
        Ground.feed(x, "g2 2 0;");
        return x;
    }

    /** All that can be full is: 230 letters, 8 hearings, 15 entries, 20 that can be undone. */
    private static GoldByEar full() {
        GoldByEar x = Ground.of(Ground.FIVE_BY_FOUR);
        x.seed(5);
        x.keep(1);
        x.walk(8);
        for (int k = 0; k < 20; k++) {
            x.noise(k);
        }
        for (int k = 0; k < 8; k++) {
            x.hear(k, 2, 10 + k);
        }
        for (int k = 0; k < 15; k++) {
            x.write(k % 4, k);
        }
        Ground.feed(x, "g1 1 0;" + " ".repeat(223));
        return x;
    }

    private static void feed() {
        for (int letter : new int[] {-1, 256, -256, LEAST, GREATEST}) {
            TWINS.refused("feed(" + letter + "), new", GoldByEar::new, x -> x.feed(letter), OUTSIDE);
            TWINS.refused("feed(" + letter + ")", RefusalsTest::busy, x -> x.feed(letter), OUTSIDE);
            TWINS.refused("feed(" + letter + "), full: OUTSIDE ahead of FULL", RefusalsTest::full, x -> x.feed(letter), OUTSIDE);
        }
        for (int letter : new int[] {0, 32, 'x', 255}) {
            TWINS.refused("feed(" + letter + "), full", RefusalsTest::full, x -> x.feed(letter), FULL);
        }
    }

    private static void told() {
        for (int what : new int[] {-1, 15, LEAST, GREATEST}) {
            TWINS.refused("told(" + what + ")", RefusalsTest::busy, x -> x.told(what), OUTSIDE);
        }
    }

    private static void lump() {
        for (int l : NO_LUMP) {
            TWINS.refused("lump(" + l + ", 0)", RefusalsTest::busy, x -> x.lump(l, 0), UNKNOWN);
            TWINS.refused("lump(" + l + ", 4): UNKNOWN ahead of OUTSIDE", RefusalsTest::busy, x -> x.lump(l, 4), UNKNOWN);
        }
        for (int what : new int[] {-1, 4, LEAST, GREATEST}) {
            TWINS.refused("lump(3, " + what + ")", RefusalsTest::busy, x -> x.lump(3, what), OUTSIDE);
        }
    }

    private static void hearer() {
        for (int h : NO_LUMP) {
            TWINS.refused("hearer(" + h + ", 2)", RefusalsTest::busy, x -> x.hearer(h, 2), UNKNOWN);
            TWINS.refused("hearer(" + h + ", -1): UNKNOWN ahead of OUTSIDE", RefusalsTest::busy, x -> x.hearer(h, -1), UNKNOWN);
        }
        for (int what : new int[] {-1, 4, LEAST, GREATEST}) {
            TWINS.refused("hearer(3, " + what + ")", RefusalsTest::busy, x -> x.hearer(3, what), OUTSIDE);
        }
    }

    private static void loud() {
        for (boolean echo : new boolean[] {false, true}) {
            for (int l : NO_LUMP) {
                TWINS.refused("loud(" + l + ", 0, " + echo + ")", RefusalsTest::busy, x -> x.loud(l, 0, echo), UNKNOWN);
                TWINS.refused("loud(" + l + ", 20, " + echo + ")", RefusalsTest::busy, x -> x.loud(l, 20, echo), UNKNOWN);
            }
            for (int cell : NO_CELL) {
                TWINS.refused("loud(1, " + cell + ", " + echo + ")", RefusalsTest::busy, x -> x.loud(1, cell, echo), UNKNOWN);
                TWINS.refused("loud(0, " + cell + ", " + echo + ") of one that is out", RefusalsTest::busy,
                    x -> x.loud(0, cell, echo), UNKNOWN);
            }
        }
    }

    private static void sounds() {
        for (int cell : NO_CELL) {
            TWINS.refused("sounds(" + cell + ", 2)", RefusalsTest::busy, x -> x.sounds(cell, 2), UNKNOWN);
            TWINS.refused("sounds(" + cell + ", 12): UNKNOWN ahead of OUTSIDE", RefusalsTest::busy, x -> x.sounds(cell, 12), UNKNOWN);
        }
        for (int pitch : NO_PITCH) {
            TWINS.refused("sounds(19, " + pitch + ")", RefusalsTest::busy, x -> x.sounds(19, pitch), OUTSIDE);
        }
    }

    private static void blow() {
        for (int wind : new int[] {-1, 5, LEAST, GREATEST}) {
            TWINS.refused("blow(" + wind + "), new", GoldByEar::new, x -> x.blow(wind), OUTSIDE);
            TWINS.refused("blow(" + wind + ")", RefusalsTest::busy, x -> x.blow(wind), OUTSIDE);
            TWINS.refused("blow(" + wind + "), the oldest is not lost", RefusalsTest::full, x -> x.blow(wind), OUTSIDE);
        }
    }

    private static void noise() {
        for (int n : new int[] {-1, 100, LEAST, GREATEST}) {
            TWINS.refused("noise(" + n + "), new", GoldByEar::new, x -> x.noise(n), OUTSIDE);
            TWINS.refused("noise(" + n + ")", RefusalsTest::busy, x -> x.noise(n), OUTSIDE);
            TWINS.refused("noise(" + n + "), the oldest is not lost", RefusalsTest::full, x -> x.noise(n), OUTSIDE);
        }
    }

    private static void stand() {
        for (int h : NO_LUMP) {
            TWINS.refused("stand(" + h + ", 0)", RefusalsTest::busy, x -> x.stand(h, 0), UNKNOWN);
            TWINS.refused("stand(" + h + ", 20)", RefusalsTest::busy, x -> x.stand(h, 20), UNKNOWN);
        }
        for (int cell : NO_CELL) {
            TWINS.refused("stand(3, " + cell + ")", RefusalsTest::busy, x -> x.stand(3, cell), UNKNOWN);
            TWINS.refused("stand(0, " + cell + "), the oldest is not lost", RefusalsTest::full, x -> x.stand(0, cell), UNKNOWN);
        }
    }

    private static void walk() {
        for (int cell : NO_CELL) {
            TWINS.refused("walk(" + cell + ")", RefusalsTest::busy, x -> x.walk(cell), UNKNOWN);
            TWINS.refused("walk(" + cell + "), the oldest is not lost", RefusalsTest::full, x -> x.walk(cell), UNKNOWN);
        }
    }

    private static void dig() {
        TWINS.refused("dig() where it is out already", RefusalsTest::busy, GoldByEar::dig, NOT);
        TWINS.refused("dig() where no lump is, the oldest is not lost", RefusalsTest::full, GoldByEar::dig, NOT);
        TWINS.refused("dig() in a valley without lumps", () -> Ground.of("g1 1 0;"), GoldByEar::dig, NOT);
        TWINS.refused("dig() beside a lump", () -> Ground.of("g2 1 0;l1 0 0 1;"), GoldByEar::dig, NOT);
    }

    private static void drift() {
        for (int n : new int[] {0, -1, 100, LEAST, GREATEST}) {
            TWINS.refused("drift(" + n + "), no cells: OUTSIDE ahead of NOT", GoldByEar::new, x -> x.drift(n), OUTSIDE);
            TWINS.refused("drift(" + n + ")", RefusalsTest::busy, x -> x.drift(n), OUTSIDE);
            TWINS.refused("drift(" + n + "), the oldest is not lost", RefusalsTest::full, x -> x.drift(n), OUTSIDE);
        }
    }

    private static void undo() {
        TWINS.refused("undo(), new", GoldByEar::new, GoldByEar::undo, NOT);
        TWINS.refused("undo(), a new valley", () -> Ground.of(Ground.FIVE_BY_FOUR), GoldByEar::undo, NOT);
        TWINS.refused("undo(), a valley told anew", () -> valleyOver(busy()), GoldByEar::undo, NOT);
        TWINS.refused("undo(), just kept", () -> keptAnew(busy()), GoldByEar::undo, NOT);
        TWINS.refused("undo(), just gone back", () -> goneBack(full(), 1), GoldByEar::undo, NOT);
        TWINS.refused("undo(), all are undone", () -> undoneAll(busy()), GoldByEar::undo, NOT);
        TWINS.refused("undo(), all twenty are undone", () -> undoneAll(full()), GoldByEar::undo, NOT);
        TWINS.refused("undo(), only what cannot be undone was done", RefusalsTest::onlyNotes, GoldByEar::undo, NOT);
    }

    private static GoldByEar valleyOver(GoldByEar x) {
        x.valley();
        return x;
    }

    private static GoldByEar keptAnew(GoldByEar x) {
        x.keep(1);
        return x;
    }

    private static GoldByEar goneBack(GoldByEar x, int i) {
        x.goBack(i);
        return x;
    }

    private static GoldByEar undoneAll(GoldByEar x) {
        for (int more = x.told(14); more > 0;) {
            more = x.undo();
        }
        return x;
    }

    private static GoldByEar onlyNotes() {
        GoldByEar x = Ground.of(Ground.FIVE_BY_FOUR);
        x.hear(0, 0, 1);
        x.write(0, 1);
        x.seed(3);
        x.tear();
        x.feed('g');
        return x;
    }

    private static void order() {
        for (int n : new int[] {-1, 61, LEAST, GREATEST}) {
            for (int i : new int[] {-1, 0, 9}) {
                TWINS.refused("order(" + n + ", " + i + ")", RefusalsTest::busy, x -> x.order(n, i), OUTSIDE);
            }
            TWINS.refused("order(" + n + ", -1), no cells", GoldByEar::new, x -> x.order(n, -1), OUTSIDE);
        }
    }

    private static void claims() {
        for (int what : new int[] {-1, 2, LEAST, GREATEST}) {
            TWINS.refused("claims(" + what + ")", RefusalsTest::busy, x -> x.claims(what), OUTSIDE);
            TWINS.refused("claims(" + what + "), no cells", GoldByEar::new, x -> x.claims(what), OUTSIDE);
        }
    }

    private static void alloy() {
        for (int pitch : NO_PITCH) {
            TWINS.refused("alloy(" + pitch + ", 0, 0)", RefusalsTest::busy, x -> x.alloy(pitch, 0, 0), OUTSIDE);
            TWINS.refused("alloy(0, " + pitch + ", 0)", RefusalsTest::busy, x -> x.alloy(0, pitch, 0), OUTSIDE);
            TWINS.refused("alloy(0, 0, " + pitch + ")", RefusalsTest::busy, x -> x.alloy(0, 0, pitch), OUTSIDE);
        }
    }

    private static void hum() {
        for (int h : NO_LUMP) {
            TWINS.refused("hum(" + h + ", 0)", RefusalsTest::busy, x -> x.hum(h, 0), UNKNOWN);
            TWINS.refused("hum(0, " + h + ")", RefusalsTest::busy, x -> x.hum(0, h), UNKNOWN);
            TWINS.refused("hum(" + h + ", " + h + ")", RefusalsTest::busy, x -> x.hum(h, h), UNKNOWN);
        }
        for (int h = 0; h < 4; h++) {
            int twice = h;
            TWINS.refused("hum(" + h + ", " + h + "), one twice", RefusalsTest::busy, x -> x.hum(twice, twice), UNKNOWN);
        }
    }

    private static void still() {
        for (int cell : NO_CELL) {
            TWINS.refused("still(" + cell + ", 0)", RefusalsTest::busy, x -> x.still(cell, 0), UNKNOWN);
            TWINS.refused("still(" + cell + ", 16)", RefusalsTest::busy, x -> x.still(cell, 16), UNKNOWN);
        }
        for (int bit = 4; bit < 32; bit++) {
            int set = 1 << bit;
            TWINS.refused("still(0, bit " + bit + ")", RefusalsTest::busy, x -> x.still(0, set), UNKNOWN);
            TWINS.refused("still(0, bit " + bit + " and all)", RefusalsTest::busy, x -> x.still(0, set | 15), UNKNOWN);
        }
        TWINS.refused("still(0, -1)", RefusalsTest::busy, x -> x.still(0, -1), UNKNOWN);
        TWINS.refused("still(0, 1), no lumps", () -> Ground.of("g1 1 0;"), x -> x.still(0, 1), UNKNOWN);
        String seven = "g6 2 0;l0 0 0 1;l1 0 0 1;l2 0 0 1;l3 0 0 1;l4 0 0 1;l5 0 0 1;l0 1 0 1;";
        TWINS.refused("still(0, 128), seven lumps", () -> Ground.of(seven), x -> x.still(0, 128), UNKNOWN);
    }

    private static void train() {
        for (int n : new int[] {-1, 61, LEAST, GREATEST}) {
            TWINS.refused("train(" + n + ", 50)", RefusalsTest::busy, x -> x.train(n, 50), OUTSIDE);
        }
        for (int q : new int[] {-1, 101, LEAST, GREATEST}) {
            TWINS.refused("train(30, " + q + ")", RefusalsTest::busy, x -> x.train(30, q), OUTSIDE);
            TWINS.refused("train(0, " + q + ")", RefusalsTest::busy, x -> x.train(0, q), OUTSIDE);
        }
    }

    private static void hear() {
        for (int cell : NO_CELL) {
            TWINS.refused("hear(" + cell + ", 0, 0)", RefusalsTest::busy, x -> x.hear(cell, 0, 0), UNKNOWN);
            TWINS.refused("hear(" + cell + ", 12, 0): UNKNOWN ahead of OUTSIDE", RefusalsTest::busy, x -> x.hear(cell, 12, 0), UNKNOWN);
            TWINS.refused("hear(" + cell + ", 0, 1000): UNKNOWN ahead of OUTSIDE", RefusalsTest::busy, x -> x.hear(cell, 0, 1000), UNKNOWN);
            TWINS.refused("hear(" + cell + ", 0, 0), full: UNKNOWN ahead of FULL", RefusalsTest::full, x -> x.hear(cell, 0, 0), UNKNOWN);
        }
        for (int pitch : NO_PITCH) {
            TWINS.refused("hear(0, " + pitch + ", 0)", RefusalsTest::busy, x -> x.hear(0, pitch, 0), OUTSIDE);
            TWINS.refused("hear(0, " + pitch + ", 0), full: OUTSIDE ahead of FULL", RefusalsTest::full, x -> x.hear(0, pitch, 0), OUTSIDE);
        }
        for (int loud : new int[] {-1, 1000, LEAST, GREATEST}) {
            TWINS.refused("hear(0, 0, " + loud + ")", RefusalsTest::busy, x -> x.hear(0, 0, loud), OUTSIDE);
            TWINS.refused("hear(0, 0, " + loud + "), full: OUTSIDE ahead of FULL", RefusalsTest::full, x -> x.hear(0, 0, loud), OUTSIDE);
        }
        TWINS.refused("hear(0, 0, 0), the ninth", RefusalsTest::full, x -> x.hear(0, 0, 0), FULL);
        TWINS.refused("hear(19, 2, 999), the ninth", RefusalsTest::full, x -> x.hear(19, 2, 999), FULL);
    }

    private static void lies() {
        for (int pitch : NO_PITCH) {
            for (int i : new int[] {-2, -1, 0, LEAST, GREATEST}) {
                TWINS.refused("lies(" + pitch + ", " + i + ")", RefusalsTest::busy, x -> x.lies(pitch, i), OUTSIDE);
            }
            TWINS.refused("lies(" + pitch + ", -1), no cells", GoldByEar::new, x -> x.lies(pitch, -1), OUTSIDE);
        }
    }

    private static void write() {
        for (int h : NO_LUMP) {
            TWINS.refused("write(" + h + ", 0)", RefusalsTest::busy, x -> x.write(h, 0), UNKNOWN);
            TWINS.refused("write(" + h + ", 4096): UNKNOWN ahead of OUTSIDE", RefusalsTest::busy, x -> x.write(h, 4096), UNKNOWN);
            TWINS.refused("write(" + h + ", 0), full: UNKNOWN ahead of FULL", RefusalsTest::full, x -> x.write(h, 0), UNKNOWN);
        }
        for (int set : new int[] {-1, 4096, LEAST, GREATEST}) {
            TWINS.refused("write(0, " + set + ")", RefusalsTest::busy, x -> x.write(0, set), OUTSIDE);
            TWINS.refused("write(0, " + set + "), full: OUTSIDE ahead of FULL", RefusalsTest::full, x -> x.write(0, set), OUTSIDE);
        }
        TWINS.refused("write(0, 0), the 16th", RefusalsTest::full, x -> x.write(0, 0), FULL);
        TWINS.refused("write(3, 4095), the 16th", RefusalsTest::full, x -> x.write(3, 4095), FULL);
    }

    private static void seed() {
        for (int v : new int[] {-1, -77, LEAST}) {
            TWINS.refused("seed(" + v + "), new", GoldByEar::new, x -> x.seed(v), OUTSIDE);
            TWINS.refused("seed(" + v + ")", RefusalsTest::busy, x -> x.seed(v), OUTSIDE);
        }
    }

    private static void keep() {
        for (int i : NO_IMAGE) {
            TWINS.refused("keep(" + i + "), new", GoldByEar::new, x -> x.keep(i), UNKNOWN);
            TWINS.refused("keep(" + i + "), all can still be undone", RefusalsTest::busy, x -> x.keep(i), UNKNOWN);
        }
    }

    private static void goBack() {
        for (int i : NO_IMAGE) {
            TWINS.refused("goBack(" + i + "), new: UNKNOWN ahead of NOT", GoldByEar::new, x -> x.goBack(i), UNKNOWN);
            TWINS.refused("goBack(" + i + "), all can still be undone", RefusalsTest::busy, x -> x.goBack(i), UNKNOWN);
        }
        TWINS.refused("goBack(0), new", GoldByEar::new, x -> x.goBack(0), NOT);
        TWINS.refused("goBack(1), new", GoldByEar::new, x -> x.goBack(1), NOT);
        TWINS.refused("goBack(1), only 0 was kept", RefusalsTest::busy, x -> x.goBack(1), NOT);
        TWINS.refused("goBack(0), only 1 was kept", RefusalsTest::full, x -> x.goBack(0), NOT);
        TWINS.refused("goBack(0), kept in the valley before", () -> valleyOver(busy()), x -> x.goBack(0), NOT);
    }

    /** 'No CELLS' in a new object and behind an empty text: nothing is there that could be asked for. */
    private static void withoutCells() {
        noCells("new", GoldByEar::new);
        noCells("an empty text", () -> emptied(busy()));
    }

    private static GoldByEar emptied(GoldByEar x) {
        x.valley();
        x.valley();
        return x;
    }

    private static void noCells(String how, Twins.Start start) {
        TWINS.refused(how + ": lump(0, 0)", start, x -> x.lump(0, 0), UNKNOWN);
        TWINS.refused(how + ": hearer(0, 0)", start, x -> x.hearer(0, 0), UNKNOWN);
        TWINS.refused(how + ": loud(0, 0, true)", start, x -> x.loud(0, 0, true), UNKNOWN);
        TWINS.refused(how + ": sounds(0, 0)", start, x -> x.sounds(0, 0), UNKNOWN);
        TWINS.refused(how + ": stand(0, 0)", start, x -> x.stand(0, 0), UNKNOWN);
        TWINS.refused(how + ": walk(0)", start, x -> x.walk(0), UNKNOWN);
        TWINS.refused(how + ": dig()", start, GoldByEar::dig, NOT);
        TWINS.refused(how + ": drift(1)", start, x -> x.drift(1), NOT);
        TWINS.refused(how + ": drift(99)", start, x -> x.drift(99), NOT);
        TWINS.refused(how + ": undo()", start, GoldByEar::undo, NOT);
        TWINS.refused(how + ": hum(0, 1)", start, x -> x.hum(0, 1), UNKNOWN);
        TWINS.refused(how + ": still(0, 0)", start, x -> x.still(0, 0), UNKNOWN);
        TWINS.refused(how + ": hear(0, 0, 0)", start, x -> x.hear(0, 0, 0), UNKNOWN);
        TWINS.refused(how + ": write(0, 0)", start, x -> x.write(0, 0), UNKNOWN);
        TWINS.refused(how + ": goBack(0)", start, x -> x.goBack(0), NOT);
    }

    /** More calls than the document gives an object: it holds the class to the words on FULL all the same. */
    private static GoldByEar late(String text, int hours) {
        GoldByEar x = Ground.of(text);
        for (int k = 0; k < hours / 99; k++) {
            x.drift(99);
        }
        if (hours % 99 > 0) {
            x.drift(hours % 99);
        }
        return x;
    }

    private static void aboveTheLastHour() {
        String one = "g2 1 0;l0 0 0 7;h0 0 0;";
        TWINS.refused("walk(1), HOURS 90001", () -> late(one, 90001), x -> x.walk(1), FULL);
        TWINS.refused("walk(0) where he is, HOURS 90001", () -> late(one, 90001), x -> x.walk(0), FULL);
        TWINS.refused("walk(2), HOURS 90001: UNKNOWN ahead of FULL", () -> late(one, 90001), x -> x.walk(2), UNKNOWN);
        TWINS.refused("dig(), HOURS 90001", () -> late(one, 90001), GoldByEar::dig, FULL);
        TWINS.refused("dig() without a lump, HOURS 90001: NOT ahead of FULL", () -> late("g1 1 0;", 90001), GoldByEar::dig, NOT);
        TWINS.refused("drift(1), HOURS 90001", () -> late(one, 90001), x -> x.drift(1), FULL);
        TWINS.refused("drift(100), HOURS 90001: OUTSIDE ahead of FULL", () -> late(one, 90001), x -> x.drift(100), OUTSIDE);
        DUE.is("walk(1), HOURS 90000", late(one, 90000).walk(1), 90001);
        DUE.is("dig(), HOURS 90000", late(one, 90000).dig(), 7);
        DUE.is("drift(99), HOURS 90000", late(one, 90000).drift(99), 90099);
        DUE.is("blow(1), HOURS 90001", late(one, 90001).blow(1) >= 0 ? 1 : 0, 1);
        DUE.is("stand(0, 1), HOURS 90001", late(one, 90001).stand(0, 1) >= 0 ? 1 : 0, 1);
        GoldByEar x = late(one, 90001);
        DUE.is("undo(), HOURS 90001", x.undo(), 19);
        DUE.holds("and he walks again", x.walk(1) > 0);
    }
}
