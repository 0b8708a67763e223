/**
 * A ferry quay: lanes of vehicles, gates, ramps that bear so much, ferries with room; each vehicle
 * is in one place, whatever stops it on its way.
 */
public final class FerryQuay {
    public static final int NONE = -1, BAD = -2, FULL = -3, MISSING = -4, DENIED = -5, STALLED = -6;

    private static final int MOST_GATES = 16;
    private static final int MOST_RAMPS = 16;
    private static final int MOST_BERTHS = 8;
    private static final int MOST_IN_LANE = 30;
    private static final int MOST_ABOARD = 40;
    private static final int MOST_LIMIT = 1000;
    private static final int MOST_ROOM = 10000;
    private static final int MOST_WEIGHT = 2000;

    private final Gate[] gates;
    private final Ramp[] ramps;
    private final Berth[] berths;
    private int gateCount;
    private int rampCount;
    private int berthCount;
    private int arrived;
    private int gone;
    private int towed;
    private int alarms;

    public FerryQuay() {
        gates = new Gate[MOST_GATES];
        ramps = new Ramp[MOST_RAMPS];
        berths = new Berth[MOST_BERTHS];
    }

    // ---- what there is

    public int gate() {
        if (gateCount >= MOST_GATES) {
            return FULL;
        }
        int number = gateCount;
        gates[number] = new Gate(number);
        gateCount++;
        return number;
    }

    public int ramp(int limit) {
        if (!isWithin(limit, 1, MOST_LIMIT)) {
            return BAD;
        }
        if (rampCount >= MOST_RAMPS) {
            return FULL;
        }
        int number = rampCount;
        ramps[number] = new Ramp(number, limit);
        rampCount++;
        return number;
    }

    public int berth(int room) {
        if (!isWithin(room, 0, MOST_ROOM)) {
            return BAD;
        }
        if (berthCount >= MOST_BERTHS) {
            return FULL;
        }
        int number = berthCount;
        berths[number] = new Berth(room);
        berthCount++;
        return number;
    }

    public int hinge(int b, int g) {
        Berth berth = berthAt(b);
        Gate gate = gateAt(g);
        if (berth == null || (gate == null && g != NONE)) {
            return BAD;
        }
        int had = berth.gateNumber();
        berth.gate = gate;
        return had;
    }

    public int lay(int b, int r) {
        Berth berth = berthAt(b);
        Ramp ramp = rampAt(r);
        if (berth == null || (ramp == null && r != NONE)) {
            return BAD;
        }
        int had = berth.rampNumber();
        berth.ramp = ramp;
        return had;
    }

    public int shut(int g, boolean is) {
        Gate gate = gateAt(g);
        if (gate == null) {
            return BAD;
        }
        int was = gate.shutAsNumber();
        gate.isShut = is;
        return was;
    }

    public int arrive(int b, int weight) {
        Berth berth = berthAt(b);
        if (berth == null || !isWithin(weight, 0, MOST_WEIGHT)) {
            return BAD;
        }
        if (berth.lane.isFull()) {
            return FULL;
        }
        berth.lane.addLast(weight);
        arrived++;
        return berth.lane.size;
    }

    // ---- what is done

    public int board(int b, int n) {
        Berth berth = berthAt(b);
        if (berth == null || !isWithin(n, 1, MOST_IN_LANE)) {
            return BAD;
        }
        Gate gate = berth.gate;
        if (gate == null) {
            return MISSING;
        }
        gate.taken++;
        if (gate.isShut) {
            return DENIED;
        }
        return boardThrough(gate, berth, n);
    }

    private int boardThrough(Gate gate, Berth berth, int n) {
        Row lane = berth.lane;
        Ramp ramp = berth.ramp;
        // Counted once: a vehicle sent to the end of the lane gets no second turn.
        int turns = lane.size;
        int went = 0;
        for (int turn = 0; turn < turns; turn++) {
            // Only a vehicle asks for the ramp, so an empty lane never misses it.
            if (ramp == null) {
                return MISSING;
            }
            ramp.taken++;
            int weight = lane.weightAt(0);
            if (weight == 0) {
                lane.removeFirst();
                towed++;
                return alarm(STALLED);
            }
            if (weight > ramp.limit) {
                lane.removeFirst();
                lane.addLast(weight);
                continue;
            }
            if (!berth.ferry.hasRoomFor(weight)) {
                return went;
            }
            lane.removeFirst();
            berth.ferry.takeAboard(weight);
            gate.passed++;
            ramp.wear += weight;
            went++;
            if (went == n) {
                return went;
            }
        }
        return went;
    }

    public int land(int b, int n) {
        Berth berth = berthAt(b);
        if (berth == null || !isWithin(n, 1, MOST_ABOARD)) {
            return BAD;
        }
        Ramp ramp = berth.ramp;
        if (ramp == null) {
            return MISSING;
        }
        ramp.taken++;
        return landOver(ramp, berth, n);
    }

    private int landOver(Ramp ramp, Berth berth, int n) {
        Ferry ferry = berth.ferry;
        Gate gate = berth.gate;
        int ashore = 0;
        while (ashore < n && ferry.vehicles.size > 0) {
            // Only a vehicle asks for the gate, so an empty ferry never misses it.
            if (gate == null) {
                return MISSING;
            }
            gate.taken++;
            if (gate.isShut) {
                return ashore;
            }
            int weight = ferry.weightOfLast();
            if (weight > ramp.limit) {
                return alarm(STALLED);
            }
            ferry.putLastAshore();
            gone++;
            ashore++;
            if (weight != 0 && weight <= ramp.limit / 2) {
                gate.passed++;
                ramp.wear += weight;
            }
        }
        return ashore;
    }

    public int swap(int a, int b) {
        Berth first = berthAt(a);
        Berth second = berthAt(b);
        if (first == null || second == null) {
            return BAD;
        }
        Gate firstGate = first.gate;
        if (firstGate == null) {
            return MISSING;
        }
        firstGate.taken++;
        Gate secondGate = second.gate;
        if (secondGate == null) {
            return MISSING;
        }
        secondGate.taken++;
        if (firstGate.isShut || secondGate.isShut) {
            return DENIED;
        }
        Ferry ferry = first.ferry;
        first.ferry = second.ferry;
        second.ferry = ferry;
        return first.ferry.load;
    }

    public int round(int b, int most) {
        if (berthAt(b) == null || !isWithin(most, 1, MOST_BERTHS)) {
            return BAD;
        }
        int total = 0;
        for (int come = 0; come < most; come++) {
            Berth berth = berthAt(b + come);
            if (berth == null) {
                return total;
            }
            Gate gate = berth.gate;
            if (gate == null) {
                return total;
            }
            gate.taken++;
            if (gate.isShut) {
                return alarm(DENIED);
            }
            total += berth.ferry.load;
        }
        return total;
    }

    public int tend(int r) {
        Ramp ramp = rampAt(r);
        if (ramp == null) {
            return BAD;
        }
        ramp.taken++;
        if (ramp.wear == 0) {
            return alarm(DENIED);
        }
        int was = ramp.wear;
        ramp.wear = 0;
        return was;
    }

    public int shift(int b, int c, int n) {
        Berth from = berthAt(b);
        Berth to = berthAt(c);
        if (from == null || to == null || b == c || !isWithin(n, 1, MOST_IN_LANE)) {
            return BAD;
        }
        Gate gate = from.gate;
        if (gate == null) {
            return MISSING;
        }
        gate.taken++;
        if (gate.isShut) {
            return DENIED;
        }
        return shiftThrough(gate, from.lane, to, n);
    }

    private int shiftThrough(Gate gate, Row from, Berth to, int n) {
        Gate toGate = to.gate;
        for (int went = 0; went < n; went++) {
            // The gate comes ahead of the look at the lanes: it is taken even for a vehicle
            // that then turns out not to be there.
            if (toGate == null) {
                return MISSING;
            }
            toGate.taken++;
            if (toGate.isShut || to.lane.isFull() || from.size == 0) {
                return went;
            }
            to.lane.addLast(from.weightAt(0));
            from.removeFirst();
            gate.passed++;
            toGate.passed++;
        }
        return n;
    }

    // ---- what is told

    public int state(int b, int what) {
        Berth berth = berthAt(b);
        if (berth == null) {
            return BAD;
        }
        switch (what) {
            case 0: return berth.gateNumber();
            case 1: return berth.rampNumber();
            case 2: return berth.lane.size;
            case 3: return berth.ferry.vehicles.size;
            case 4: return berth.ferry.load;
            case 5: return berth.ferry.room;
            default: return BAD;
        }
    }

    public int waiting(int b, int i) {
        Berth berth = berthAt(b);
        return berth == null ? BAD : berth.lane.weightAt(i);
    }

    public int aboard(int b, int i) {
        Berth berth = berthAt(b);
        return berth == null ? BAD : berth.ferry.vehicles.weightAt(i);
    }

    public int ofGate(int g, int what) {
        Gate gate = gateAt(g);
        if (gate == null) {
            return BAD;
        }
        switch (what) {
            case 0: return gate.taken;
            case 1: return gate.passed;
            case 2: return gate.shutAsNumber();
            default: return BAD;
        }
    }

    public int ofRamp(int r, int what) {
        Ramp ramp = rampAt(r);
        if (ramp == null) {
            return BAD;
        }
        switch (what) {
            case 0: return ramp.taken;
            case 1: return ramp.wear;
            case 2: return ramp.limit;
            default: return BAD;
        }
    }

    public int count(int what) {
        switch (what) {
            case 0: return gateCount;
            case 1: return rampCount;
            case 2: return berthCount;
            case 3: return arrived;
            case 4: return gone;
            case 5: return towed;
            case 6: return alarms;
            default: return BAD;
        }
    }

    // ---- helpers

    private int alarm(int answer) {
        alarms++;
        return answer;
    }

    private Gate gateAt(int g) {
        return g >= 0 && g < gateCount && g < gates.length ? gates[g] : null;
    }

    private Ramp rampAt(int r) {
        return r >= 0 && r < rampCount && r < ramps.length ? ramps[r] : null;
    }

    private Berth berthAt(int b) {
        return b >= 0 && b < berthCount && b < berths.length ? berths[b] : null;
    }

    private static boolean isWithin(int number, int least, int most) {
        return number >= least && number <= most;
    }

    private static final class Gate {
        final int number;
        boolean isShut;
        int taken;
        int passed;

        Gate(int number) {
            this.number = number;
        }

        int shutAsNumber() {
            return isShut ? 1 : 0;
        }
    }

    private static final class Ramp {
        final int number;
        final int limit;
        int taken;
        int wear;

        Ramp(int number, int limit) {
            this.number = number;
            this.limit = limit;
        }
    }

    private static final class Berth {
        final Row lane;
        Ferry ferry;
        /** Null: none. */
        Gate gate;
        /** Null: none. */
        Ramp ramp;

        Berth(int room) {
            lane = new Row(MOST_IN_LANE);
            ferry = new Ferry(room);
        }

        int gateNumber() {
            return gate == null ? NONE : gate.number;
        }

        int rampNumber() {
            return ramp == null ? NONE : ramp.number;
        }
    }

    private static final class Ferry {
        final int room;
        final Row vehicles;
        int load;

        Ferry(int room) {
            this.room = room;
            vehicles = new Row(MOST_ABOARD);
        }

        boolean hasRoomFor(int weight) {
            return !vehicles.isFull() && load + weight <= room;
        }

        void takeAboard(int weight) {
            vehicles.addLast(weight);
            load += weight;
        }

        int weightOfLast() {
            return vehicles.weightAt(vehicles.size - 1);
        }

        void putLastAshore() {
            if (vehicles.size > 0) {
                load -= weightOfLast();
                vehicles.removeLast();
            }
        }
    }

    /** The weights of vehicles, one behind the other, in an array that is made once. */
    private static final class Row {
        final int[] weights;
        int size;

        Row(int most) {
            weights = new int[Math.max(most, 0)];
        }

        boolean isFull() {
            return size >= weights.length;
        }

        int weightAt(int i) {
            return i >= 0 && i < size && i < weights.length ? weights[i] : NONE;
        }

        void addLast(int weight) {
            if (size >= 0 && size < weights.length) {
                weights[size] = weight;
                size++;
            }
        }

        void removeFirst() {
            if (size > 0 && size <= weights.length) {
                size--;
                System.arraycopy(weights, 1, weights, 0, size);
            }
        }

        void removeLast() {
            if (size > 0) {
                size--;
            }
        }
    }
}
