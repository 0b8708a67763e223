import java.util.ArrayList;
import java.util.List;

/** One new object with its calls written down, so that a wrong answer is told with what led to it. */
final class Run {
    static final int NONE = -1, BAD = -2, FULL = -3, MISSING = -4, DENIED = -5, STALLED = -6;
    static final int LOW = Integer.MIN_VALUE, HIGH = Integer.MAX_VALUE;
    /** Behind so many calls the document promises nothing, so no test may ask for more. */
    static final int MOST_CALLS = 512;

    private final FerryQuay quay = new FerryQuay();
    private final StringBuilder rows = new StringBuilder();
    private int calls = 0;
    private boolean asDue = true;

    private int told(int answer, String name, Object... arguments) {
        calls++;
        StringBuilder row = new StringBuilder("  ").append(name).append('(');
        for (int i = 0; i < arguments.length; i++) {
            row.append(i == 0 ? "" : ", ").append(arguments[i]);
        }
        rows.append(row).append(") -> ").append(answer).append('\n');
        if (calls == MOST_CALLS + 1) {
            fail("the test makes more than " + MOST_CALLS + " calls");
        }
        return answer;
    }

    void fail(String why) {
        asDue = false;
        rows.append("  ^^ ").append(why).append('\n');
    }

    boolean isAsDue() {
        return asDue;
    }

    int calls() {
        return calls;
    }

    /** The run up to its last wrong row. */
    String report() {
        return rows.substring(0, rows.indexOf("\n", rows.lastIndexOf("  ^^ ")));
    }

    // ---- the calls

    int gate() {
        return told(quay.gate(), "gate");
    }

    int ramp(int limit) {
        return told(quay.ramp(limit), "ramp", limit);
    }

    int berth(int room) {
        return told(quay.berth(room), "berth", room);
    }

    int hinge(int b, int g) {
        return told(quay.hinge(b, g), "hinge", b, g);
    }

    int lay(int b, int r) {
        return told(quay.lay(b, r), "lay", b, r);
    }

    int shut(int g, boolean is) {
        return told(quay.shut(g, is), "shut", g, is);
    }

    int arrive(int b, int weight) {
        return told(quay.arrive(b, weight), "arrive", b, weight);
    }

    int board(int b, int n) {
        return told(quay.board(b, n), "board", b, n);
    }

    int land(int b, int n) {
        return told(quay.land(b, n), "land", b, n);
    }

    int swap(int a, int b) {
        return told(quay.swap(a, b), "swap", a, b);
    }

    int round(int b, int most) {
        return told(quay.round(b, most), "round", b, most);
    }

    int tend(int r) {
        return told(quay.tend(r), "tend", r);
    }

    int shift(int b, int c, int n) {
        return told(quay.shift(b, c, n), "shift", b, c, n);
    }

    int state(int b, int what) {
        return told(quay.state(b, what), "state", b, what);
    }

    int waiting(int b, int i) {
        return told(quay.waiting(b, i), "waiting", b, i);
    }

    int aboard(int b, int i) {
        return told(quay.aboard(b, i), "aboard", b, i);
    }

    int ofGate(int g, int what) {
        return told(quay.ofGate(g, what), "ofGate", g, what);
    }

    int ofRamp(int r, int what) {
        return told(quay.ofRamp(r, what), "ofRamp", r, what);
    }

    int count(int what) {
        return told(quay.count(what), "count", what);
    }

    // ---- what a test begins with

    /** So many berths of this room, berth i with gate i and ramp i of this limit. */
    void build(int berths, int room, int limit) {
        for (int i = 0; i < berths; i++) {
            berth(room);
            gate();
            ramp(limit);
            hinge(i, i);
            lay(i, i);
        }
    }

    void arriveAll(int b, int... weights) {
        for (int weight : weights) {
            arrive(b, weight);
        }
    }

    void arriveMany(int b, int many, int weight) {
        for (int i = 0; i < many; i++) {
            arrive(b, weight);
        }
    }

    /** Two berths with gates, ramps, vehicles in the lanes and aboard, and something counted everywhere. */
    void buildBusy() {
        build(2, 1000, 300);
        arriveAll(0, 0, 10, 20, 30, 400);
        arriveAll(1, 50, 60);
        board(0, 1);
        board(0, 2);
        board(1, 1);
        land(0, 1);
    }

    // ---- what is due

    /** Of the last call. */
    void due(int got, int want) {
        if (got != want) {
            fail("due is " + want);
        }
    }

    void dueLane(int b, int... weights) {
        due(state(b, 2), weights.length);
        for (int i = 0; i < weights.length; i++) {
            due(waiting(b, i), weights[i]);
        }
        due(waiting(b, weights.length), NONE);
    }

    void dueAboard(int b, int... weights) {
        int load = 0;
        due(state(b, 3), weights.length);
        for (int i = 0; i < weights.length; i++) {
            due(aboard(b, i), weights[i]);
            load += weights[i];
        }
        due(aboard(b, weights.length), NONE);
        due(state(b, 4), load);
    }

    void dueGate(int g, int taken, int passed) {
        due(ofGate(g, 0), taken);
        due(ofGate(g, 1), passed);
    }

    void dueRamp(int r, int taken, int wear) {
        due(ofRamp(r, 0), taken);
        due(ofRamp(r, 1), wear);
    }

    void dueCounts(int gone, int towed, int alarms) {
        due(count(4), gone);
        due(count(5), towed);
        due(count(6), alarms);
    }

    /** All that can be told. */
    List<Integer> all() {
        List<Integer> all = new ArrayList<>();
        for (int what = 0; what <= 6; what++) {
            all.add(count(what));
        }
        for (int g = 0; g < all.get(0); g++) {
            for (int what = 0; what <= 2; what++) {
                all.add(ofGate(g, what));
            }
        }
        for (int r = 0; r < all.get(1); r++) {
            for (int what = 0; what <= 2; what++) {
                all.add(ofRamp(r, what));
            }
        }
        for (int b = 0; b < all.get(2); b++) {
            addBerth(all, b);
        }
        return all;
    }

    private void addBerth(List<Integer> all, int b) {
        int first = all.size();
        for (int what = 0; what <= 5; what++) {
            all.add(state(b, what));
        }
        for (int i = 0; i < all.get(first + 2); i++) {
            all.add(waiting(b, i));
        }
        for (int i = 0; i < all.get(first + 3); i++) {
            all.add(aboard(b, i));
        }
    }

    void dueUnchanged(List<Integer> before) {
        List<Integer> now = all();
        if (!now.equals(before)) {
            fail("all that can be told is due to be " + before + ", but is " + now);
        }
    }
}
