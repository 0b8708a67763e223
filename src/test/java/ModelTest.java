import java.util.ArrayList;
import java.util.List;
import java.util.Random;

/**
 * Runs of made-up calls, from fixed seeds: each answer is held against a second telling of the
 * document, in which vehicles are objects and a stop is an exception; what can be told is compared
 * at each run's end. An object gets no more calls than the document promises something for.
 */
public final class ModelTest {
    private static final int RUNS = 12000;
    private static final int MOST_CALLS = 512;
    private static final int NONE = -1, BAD = -2, FULL = -3, MISSING = -4, DENIED = -5, STALLED = -6;

    /** The call is over, with this answer. */
    private static final class Over extends Exception {
        private static final long serialVersionUID = 1L;
        final int answer;

        Over(int answer) {
            super(null, null, false, false);
            this.answer = answer;
        }
    }

    private static final class Gate {
        boolean shut;
        int taken, passed;
    }

    private static final class Ramp {
        int limit, taken, wear;
    }

    private static final class Vehicle {
        int weight;
    }

    private static final class Ferry {
        int room;
        List<Vehicle> aboard = new ArrayList<>();

        int load() {
            return aboard.stream().mapToInt(v -> v.weight).sum();
        }
    }

    private static final class Berth {
        Gate gate;
        Ramp ramp;
        List<Vehicle> lane = new ArrayList<>();
        Ferry ferry = new Ferry();
    }

    private static final class Model {
        final List<Gate> gates = new ArrayList<>();
        final List<Ramp> ramps = new ArrayList<>();
        final List<Berth> berths = new ArrayList<>();
        int arrived, gone, towed, alarms;

        static <T> T in(List<T> all, int i) throws Over {
            check(0 <= i && i < all.size());
            return all.get(i);
        }

        static void check(boolean good) throws Over {
            if (!good) {
                throw new Over(BAD);
            }
        }

        static void checkRoom(boolean is) throws Over {
            if (!is) {
                throw new Over(FULL);
            }
        }

        static Gate take(Gate gate) throws Over {
            if (gate == null) {
                throw new Over(MISSING);
            }
            gate.taken++;
            return gate;
        }

        static Ramp take(Ramp ramp) throws Over {
            if (ramp == null) {
                throw new Over(MISSING);
            }
            ramp.taken++;
            return ramp;
        }

        Over alarm(int answer) {
            alarms++;
            return new Over(answer);
        }

        int call(int which, int p, int q, int r) {
            try {
                switch (which) {
                    case 0: return gate();
                    case 1: return ramp(p);
                    case 2: return berth(p);
                    case 3: return hinge(p, q);
                    case 4: return lay(p, q);
                    case 5: return shut(p, q != 0);
                    case 6: return arrive(p, q);
                    case 7: return board(p, q);
                    case 8: return land(p, q);
                    case 9: return swap(p, q);
                    case 10: return round(p, q);
                    case 11: return tend(p);
                    case 12: return shift(p, q, r);
                    case 13: return state(p, q);
                    case 14: return weight(in(berths, p).lane, q);
                    case 15: return weight(in(berths, p).ferry.aboard, q);
                    case 16: return ofGate(p, q);
                    case 17: return ofRamp(p, q);
                    default: return count(p);
                }
            } catch (Over over) {
                return over.answer;
            }
        }

        int gate() throws Over {
            checkRoom(gates.size() < 16);
            gates.add(new Gate());
            return gates.size() - 1;
        }

        int ramp(int limit) throws Over {
            check(1 <= limit && limit <= 1000);
            checkRoom(ramps.size() < 16);
            Ramp ramp = new Ramp();
            ramp.limit = limit;
            ramps.add(ramp);
            return ramps.size() - 1;
        }

        int berth(int room) throws Over {
            check(0 <= room && room <= 10000);
            checkRoom(berths.size() < 8);
            Berth berth = new Berth();
            berth.ferry.room = room;
            berths.add(berth);
            return berths.size() - 1;
        }

        int hinge(int b, int g) throws Over {
            Berth berth = in(berths, b);
            Gate gate = g == NONE ? null : in(gates, g);
            int had = gates.indexOf(berth.gate);
            berth.gate = gate;
            return had;
        }

        int lay(int b, int r) throws Over {
            Berth berth = in(berths, b);
            Ramp ramp = r == NONE ? null : in(ramps, r);
            int had = ramps.indexOf(berth.ramp);
            berth.ramp = ramp;
            return had;
        }

        int shut(int g, boolean is) throws Over {
            Gate gate = in(gates, g);
            int was = gate.shut ? 1 : 0;
            gate.shut = is;
            return was;
        }

        int arrive(int b, int weight) throws Over {
            Berth berth = in(berths, b);
            check(0 <= weight && weight <= 2000);
            checkRoom(berth.lane.size() < 30);
            Vehicle vehicle = new Vehicle();
            vehicle.weight = weight;
            berth.lane.add(vehicle);
            arrived++;
            return berth.lane.size();
        }

        int board(int b, int n) throws Over {
            Berth berth = in(berths, b);
            check(1 <= n && n <= 30);
            Gate gate = take(berth.gate);
            if (gate.shut) {
                throw new Over(DENIED);
            }
            int went = 0;
            for (Vehicle vehicle : new ArrayList<>(berth.lane)) {
                Ramp ramp = take(berth.ramp);
                if (vehicle.weight == 0) {
                    berth.lane.remove(vehicle);
                    towed++;
                    throw alarm(STALLED);
                }
                if (vehicle.weight > ramp.limit) {
                    berth.lane.remove(vehicle);
                    berth.lane.add(vehicle);
                } else if (berth.ferry.load() + vehicle.weight > berth.ferry.room
                        || berth.ferry.aboard.size() == 40) {
                    return went;
                } else {
                    berth.lane.remove(vehicle);
                    berth.ferry.aboard.add(vehicle);
                    gate.passed++;
                    ramp.wear += vehicle.weight;
                    if (++went == n) {
                        return n;
                    }
                }
            }
            return went;
        }

        int land(int b, int n) throws Over {
            Berth berth = in(berths, b);
            check(1 <= n && n <= 40);
            Ramp ramp = take(berth.ramp);
            List<Vehicle> aboard = berth.ferry.aboard;
            int went = 0;
            for (int i = 0; i < n && !aboard.isEmpty(); i++) {
                Vehicle vehicle = aboard.get(aboard.size() - 1);
                Gate gate = take(berth.gate);
                if (gate.shut) {
                    return went;
                }
                if (vehicle.weight > ramp.limit) {
                    throw alarm(STALLED);
                }
                aboard.remove(vehicle);
                gone++;
                went++;
                boolean aside = vehicle.weight == 0 || vehicle.weight > ramp.limit / 2;
                gate.passed += aside ? 0 : 1;
                ramp.wear += aside ? 0 : vehicle.weight;
            }
            return went;
        }

        int swap(int a, int b) throws Over {
            Berth one = in(berths, a);
            Berth other = in(berths, b);
            boolean denied = take(one.gate).shut | take(other.gate).shut;
            if (denied) {
                throw new Over(DENIED);
            }
            Ferry ferry = one.ferry;
            one.ferry = other.ferry;
            other.ferry = ferry;
            return one.ferry.load();
        }

        int round(int b, int most) throws Over {
            in(berths, b);
            check(1 <= most && most <= 8);
            int total = 0;
            for (Berth berth : berths.subList(b, Math.min(b + most, berths.size()))) {
                if (berth.gate == null) {
                    return total;
                }
                if (take(berth.gate).shut) {
                    throw alarm(DENIED);
                }
                total += berth.ferry.load();
            }
            return total;
        }

        int tend(int r) throws Over {
            Ramp ramp = take(in(ramps, r));
            int wear = ramp.wear;
            if (wear == 0) {
                throw alarm(DENIED);
            }
            ramp.wear = 0;
            return wear;
        }

        int shift(int b, int c, int n) throws Over {
            Berth from = in(berths, b);
            Berth to = in(berths, c);
            check(b != c && 1 <= n && n <= 30);
            Gate gate = take(from.gate);
            if (gate.shut) {
                throw new Over(DENIED);
            }
            int went = 0;
            while (went < n) {
                Gate next = take(to.gate);
                if (next.shut || to.lane.size() == 30 || from.lane.isEmpty()) {
                    break;
                }
                to.lane.add(from.lane.remove(0));
                gate.passed++;
                next.passed++;
                went++;
            }
            return went;
        }

        int state(int b, int what) throws Over {
            Berth berth = in(berths, b);
            check(0 <= what && what <= 5);
            return new int[] {gates.indexOf(berth.gate), ramps.indexOf(berth.ramp), berth.lane.size(),
                berth.ferry.aboard.size(), berth.ferry.load(), berth.ferry.room}[what];
        }

        int weight(List<Vehicle> row, int i) {
            return 0 <= i && i < row.size() ? row.get(i).weight : NONE;
        }

        int ofGate(int g, int what) throws Over {
            Gate gate = in(gates, g);
            check(0 <= what && what <= 2);
            return new int[] {gate.taken, gate.passed, gate.shut ? 1 : 0}[what];
        }

        int ofRamp(int r, int what) throws Over {
            Ramp ramp = in(ramps, r);
            check(0 <= what && what <= 2);
            return new int[] {ramp.taken, ramp.wear, ramp.limit}[what];
        }

        int count(int what) throws Over {
            check(0 <= what && what <= 6);
            return new int[] {gates.size(), ramps.size(), berths.size(), arrived, gone, towed, alarms}[what];
        }
    }

    private static int call(FerryQuay x, int which, int p, int q, int r) {
        switch (which) {
            case 0: return x.gate();
            case 1: return x.ramp(p);
            case 2: return x.berth(p);
            case 3: return x.hinge(p, q);
            case 4: return x.lay(p, q);
            case 5: return x.shut(p, q != 0);
            case 6: return x.arrive(p, q);
            case 7: return x.board(p, q);
            case 8: return x.land(p, q);
            case 9: return x.swap(p, q);
            case 10: return x.round(p, q);
            case 11: return x.tend(p);
            case 12: return x.shift(p, q, r);
            case 13: return x.state(p, q);
            case 14: return x.waiting(p, q);
            case 15: return x.aboard(p, q);
            case 16: return x.ofGate(p, q);
            case 17: return x.ofRamp(p, q);
            default: return x.count(p);
        }
    }

    private static final String[] NAMES = {"gate", "ramp", "berth", "hinge", "lay", "shut", "arrive",
        "board", "land", "swap", "round", "tend", "shift", "state", "waiting", "aboard", "ofGate",
        "ofRamp", "count"};
    /** How often each call is drawn, so that lanes and ferries fill up. */
    private static final int[] SHARES = {2, 2, 2, 4, 4, 4, 40, 16, 6, 3, 3, 2, 6, 2, 2, 2, 2, 2, 1};
    private static final int[] EDGES = {Integer.MIN_VALUE, -7, -2, -1, 0, 1, 2, 7, 8, 15, 16, 29, 30, 31,
        39, 40, 41, 1000, 1001, 2000, 2001, 10000, 10001, Integer.MAX_VALUE};

    private static int wrong = 0;
    private static int calls = 0;

    public static void main(String[] args) {
        for (int seed = 0; seed < RUNS && wrong == 0; seed++) {
            run(seed);
        }
        System.out.println(wrong == 0 ? RUNS + " runs are as the model's" : wrong + " answers are not as due");
        if (wrong != 0) {
            System.exit(1);
        }
    }

    private static void run(int seed) {
        Random random = new Random(seed);
        FerryQuay x = new FerryQuay();
        Model model = new Model();
        int heaviest = new int[] {3, 30, 300, 2000}[seed % 4];
        int zeros = new int[] {0, 5, 60}[seed % 3];
        int few = 1 + random.nextInt(4);
        int made = 50 + random.nextInt(MOST_CALLS - 50);
        calls = 0;
        for (int i = 0; i < made; i++) {
            int which = i < 12 ? i % 4 == 3 ? 6 : i % 4 : draw(random);
            int p = first(random, which, few, heaviest);
            int q = second(random, which, few, heaviest, zeros);
            int r = 1 + random.nextInt(30);
            if (random.nextInt(40) == 0) {
                p = edge(random);
            }
            if (random.nextInt(40) == 0) {
                q = edge(random);
            }
            if (random.nextInt(40) == 0) {
                r = edge(random);
            }
            compare(seed, x, model, which, p, q, r);
        }
        checkOnePlaceEach(seed, x, model);
        compareTold(seed, x, model);
    }

    private static int draw(Random random) {
        int all = 0;
        for (int share : SHARES) {
            all += share;
        }
        int left = random.nextInt(all);
        int which = 0;
        while (left >= SHARES[which]) {
            left -= SHARES[which++];
        }
        return which;
    }

    private static int edge(Random random) {
        return EDGES[random.nextInt(EDGES.length)];
    }

    private static int first(Random random, int which, int few, int heaviest) {
        switch (which) {
            case 1: return 1 + random.nextInt(Math.min(1000, 2 * heaviest));
            case 2: return random.nextInt(Math.min(10001, 80 * heaviest));
            case 18: return random.nextInt(7);
            default: return random.nextInt(few);
        }
    }

    private static int second(Random random, int which, int few, int heaviest, int zeros) {
        switch (which) {
            case 3: case 4: return random.nextInt(12) == 0 ? NONE : random.nextInt(few);
            case 5: return random.nextInt(4) == 0 ? 1 : 0;
            case 6: return random.nextInt(1000) < zeros ? 0 : 1 + random.nextInt(heaviest);
            case 7: return 1 + random.nextInt(30);
            case 8: return 1 + random.nextInt(random.nextInt(4) == 0 ? 40 : 3);
            case 10: return 1 + random.nextInt(8);
            case 13: return random.nextInt(6);
            case 14: case 15: return random.nextInt(41);
            case 16: case 17: return random.nextInt(3);
            default: return random.nextInt(few);
        }
    }

    private static int compare(int seed, FerryQuay x, Model model, int which, int p, int q, int r) {
        int want = model.call(which, p, q, r);
        int got = call(x, which, p, q, r);
        calls++;
        if (got != want) {
            wrong++;
            System.out.println("seed " + seed + ", call " + calls + ": " + NAMES[which] + "(" + p + ", " + q
                + ", " + r + ") answered " + got + ", due is " + want);
        }
        return got;
    }

    private static void checkOnePlaceEach(int seed, FerryQuay x, Model model) {
        if (calls + 3 + 2 * model.berths.size() > MOST_CALLS) {
            return;
        }
        int arrived = compare(seed, x, model, 18, 3, 0, 0);
        int placed = compare(seed, x, model, 18, 4, 0, 0) + compare(seed, x, model, 18, 5, 0, 0);
        for (int b = 0; b < model.berths.size(); b++) {
            placed += compare(seed, x, model, 13, b, 2, 0) + compare(seed, x, model, 13, b, 3, 0);
        }
        if (placed != arrived) {
            wrong++;
            System.out.println("seed " + seed + ": " + arrived + " arrived, but " + placed + " are somewhere");
        }
    }

    /** As much as the calls that are left allow, beginning with the berths on even seeds. */
    private static void compareTold(int seed, FerryQuay x, Model model) {
        boolean berthsFirst = seed % 2 == 0;
        if (berthsFirst) {
            compareBerths(seed, x, model);
        }
        compareEach(seed, x, model, 18, 7, 1);
        compareEach(seed, x, model, 16, model.gates.size(), 3);
        compareEach(seed, x, model, 17, model.ramps.size(), 3);
        if (!berthsFirst) {
            compareBerths(seed, x, model);
        }
    }

    private static void compareBerths(int seed, FerryQuay x, Model model) {
        compareEach(seed, x, model, 13, model.berths.size(), 6);
        for (int b = 0; b < model.berths.size(); b++) {
            compareRow(seed, x, model, 14, b, model.berths.get(b).lane.size());
            compareRow(seed, x, model, 15, b, model.berths.get(b).ferry.aboard.size());
        }
    }

    private static void compareRow(int seed, FerryQuay x, Model model, int which, int b, int size) {
        for (int i = 0; i <= size && calls < MOST_CALLS; i++) {
            compare(seed, x, model, which, b, i, 0);
        }
    }

    private static void compareEach(int seed, FerryQuay x, Model model, int which, int many, int whats) {
        for (int p = 0; p < many; p++) {
            for (int q = 0; q < whats && calls < MOST_CALLS; q++) {
                compare(seed, x, model, which, p, q, 0);
            }
        }
    }
}
