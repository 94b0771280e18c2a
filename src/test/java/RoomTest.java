import java.lang.management.ManagementFactory;

/** All calls of a run live in one room: an object is small, and no call makes anything. */
public final class RoomTest {
    private static final Due DUE = new Due("RoomTest");
    private static final int OBJECTS = 200;
    private static final int ROUNDS = 40;
    private static final com.sun.management.ThreadMXBean BYTES =
        (com.sun.management.ThreadMXBean) ManagementFactory.getThreadMXBean();
    private static final String FULLEST = "g6 6 1;l0 0 0 9;l5 5 1 9;l0 5 2 9;l5 0 3 9;l2 2 4 1;l3 3 5 1;l5 2 6 5;"
        + "h0 0 0;h5 5 1;h5 0 2;h3 2 0;n9;";

    public static void main(String[] args) {
        anObjectIsSmall();
        callsMakeNothing();
        DUE.end();
    }

    private static long made() {
        return BYTES.getThreadAllocatedBytes(Thread.currentThread().getId());
    }

    private static void anObjectIsSmall() {
        GoldByEar[] all = new GoldByEar[OBJECTS];
        all[0] = new GoldByEar();
        long before = made();
        for (int k = 0; k < OBJECTS; k++) {
            all[k] = new GoldByEar();
        }
        long each = (made() - before) / OBJECTS;
        DUE.holds("an object takes 24000 bytes at most: " + each, each <= 24000);
        DUE.is("the last one lives", all[OBJECTS - 1].told(7), 5);
    }

    private static void callsMakeNothing() {
        GoldByEar x = new GoldByEar();
        everyCall(x);
        long before = made();
        for (int k = 0; k < ROUNDS; k++) {
            everyCall(x);
        }
        long bytes = made() - before;
        // Reading the counter may itself make a little; one row of a call in each round would be far more.
        DUE.holds("no call makes anything: " + bytes, bytes < ROUNDS * 16L);
    }

    private static void everyCall(GoldByEar x) {
        for (int k = 0; k < FULLEST.length(); k++) {
            x.feed(FULLEST.charAt(k));
        }
        x.valley();
        x.fault();
        x.told(11);
        x.lump(1, 2);
        x.hearer(0, 2);
        x.hearer(0, 3);
        x.loud(1, 2, true);
        x.sounds(3, 4);
        x.blow(1);
        x.noise(12);
        x.stand(1, 7);
        x.walk(35);
        x.dig();
        x.drift(99);
        x.undo();
        x.posts(-1);
        x.order(60, 3);
        x.claims(1);
        x.alloy(3, 9, 5);
        x.hum(0, 3);
        x.still(4, 3);
        x.train(60, 1);
        x.hear(3, 1, 9);
        x.lies(2, -2);
        x.lies(2, 300);
        x.write(0, 9);
        x.judge();
        x.tear();
        x.seed(9);
        x.keep(0);
        x.goBack(0);
    }
}
