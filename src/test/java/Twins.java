/**
 * Two objects brought to the same state by the same calls: one of them is refused a call, the other one is spared it.
 * Then both must answer alike, down to what can be undone, what the images hold, the seed, and the letters fed.
 */
final class Twins {
    /** The calls that bring a new object to a state. */
    interface Start {
        GoldByEar make();
    }

    /** The call that is to be refused. */
    interface Call {
        int on(GoldByEar x);
    }

    private final Due due;

    Twins(Due due) {
        this.due = due;
    }

    void refused(String call, Start start, Call on, int answer) {
        GoldByEar asked = start.make();
        due.is(call, on.on(asked), answer);
        due.holds(call + " changes nothing", all(asked).equals(all(start.make())));
    }

    /** All that an object can be made to tell; it is used up by it. */
    static String all(GoldByEar x) {
        StringBuilder s = new StringBuilder(Ground.state(x));
        s.append(" / seed ").append(x.seed(0));
        int more = x.told(14);
        for (int k = 0; k < 20 && more > 0; k++) {
            more = x.undo();
            s.append(" / undone ").append(more).append(moment(x));
        }
        for (int i = 0; i < 2; i++) {
            s.append(" / image ").append(x.goBack(i)).append(moment(x)).append(' ').append(x.seed(0));
        }
        // What was fed shows by where it fails; a text that was whole shows by what it tells.
        s.append(" / text ").append(x.feed('x')).append(' ').append(x.valley()).append(' ').append(x.fault());
        return s.append(moment(x)).toString();
    }

    private static String moment(GoldByEar x) {
        StringBuilder s = new StringBuilder();
        for (int what = 6; what <= 10; what++) {
            s.append(' ').append(x.told(what));
        }
        for (int h = 0; h < x.told(4); h++) {
            s.append(' ').append(x.hearer(h, 0));
        }
        return s.toString();
    }
}
