/** For each promise of the document: ordinary inputs, the edges that it names, wrong inputs. */
public final class PromiseTest {
    private static final int NONE = -1, BAD = -2, FULL = -3, MISSING = -4, DENIED = -5, STALLED = -6;
    private static final int LOW = Integer.MIN_VALUE, HIGH = Integer.MAX_VALUE;
    private static int wrong = 0;

    private static void due(String what, int got, int want) {
        if (got != want) {
            wrong++;
            System.out.println(what + " answered " + got + ", due is " + want);
        }
    }

    public static void main(String[] args) {
        constants();
        newObject();
        gate();
        ramp();
        berth();
        hinge();
        lay();
        shut();
        arrive();
        boardOrdinary();
        boardStops();
        boardTurns();
        boardFull();
        boardWrong();
        landOrdinary();
        landHalf();
        landStops();
        landWrong();
        swap();
        swapStops();
        round();
        roundStops();
        tend();
        shift();
        shiftStops();
        shiftWrong();
        state();
        rows();
        ofGate();
        ofRamp();
        count();
        objectsApart();
        System.out.println(wrong == 0 ? "all promises hold" : wrong + " answers are not as due");
        if (wrong != 0) {
            System.exit(1);
        }
    }

    /** So many berths of this room, berth i with gate i and ramp i of this limit. */
    private static FerryQuay quay(int berths, int room, int limit) {
        FerryQuay x = new FerryQuay();
        for (int i = 0; i < berths; i++) {
            x.berth(room);
            x.gate();
            x.ramp(limit);
            x.hinge(i, i);
            x.lay(i, i);
        }
        return x;
    }

    private static void arriveAll(FerryQuay x, int b, int... weights) {
        for (int weight : weights) {
            x.arrive(b, weight);
        }
    }

    private static void dueLane(String what, FerryQuay x, int b, int... weights) {
        due(what + ": in the lane", x.state(b, 2), weights.length);
        for (int i = 0; i < weights.length; i++) {
            due(what + ": waiting " + i, x.waiting(b, i), weights[i]);
        }
        due(what + ": behind the lane", x.waiting(b, weights.length), NONE);
    }

    private static void dueAboard(String what, FerryQuay x, int b, int... weights) {
        int load = 0;
        due(what + ": how many aboard", x.state(b, 3), weights.length);
        for (int i = 0; i < weights.length; i++) {
            due(what + ": aboard " + i, x.aboard(b, i), weights[i]);
            load += weights[i];
        }
        due(what + ": behind those aboard", x.aboard(b, weights.length), NONE);
        due(what + ": load", x.state(b, 4), load);
    }

    private static void dueGate(String what, FerryQuay x, int g, int taken, int passed) {
        due(what + ": gate " + g + " taken", x.ofGate(g, 0), taken);
        due(what + ": gate " + g + " passed", x.ofGate(g, 1), passed);
    }

    private static void dueRamp(String what, FerryQuay x, int r, int taken, int wear) {
        due(what + ": ramp " + r + " taken", x.ofRamp(r, 0), taken);
        due(what + ": ramp " + r + " wear", x.ofRamp(r, 1), wear);
    }

    private static void dueCounts(String what, FerryQuay x, int gone, int towed, int alarms) {
        due(what + ": gone", x.count(4), gone);
        due(what + ": towed", x.count(5), towed);
        due(what + ": alarms", x.count(6), alarms);
    }

    private static void constants() {
        due("NONE", FerryQuay.NONE, NONE);
        due("BAD", FerryQuay.BAD, BAD);
        due("FULL", FerryQuay.FULL, FULL);
        due("MISSING", FerryQuay.MISSING, MISSING);
        due("DENIED", FerryQuay.DENIED, DENIED);
        due("STALLED", FerryQuay.STALLED, STALLED);
    }

    private static void newObject() {
        FerryQuay x = new FerryQuay();
        for (int what = 0; what <= 6; what++) {
            due("1: count(" + what + ")", x.count(what), 0);
        }
        due("1: no gate", x.ofGate(0, 0), BAD);
        due("1: no ramp", x.ofRamp(0, 0), BAD);
        due("1: no berth", x.state(0, 0), BAD);
        due("1: no lane", x.waiting(0, 0), BAD);
        due("1: no ferry", x.aboard(0, 0), BAD);
        due("1: board", x.board(0, 1), BAD);
        due("1: land", x.land(0, 1), BAD);
        due("1: swap", x.swap(0, 0), BAD);
        due("1: round", x.round(0, 1), BAD);
        due("1: tend", x.tend(0), BAD);
        due("1: shift", x.shift(0, 1, 1), BAD);
        due("1: hinge none", x.hinge(0, NONE), BAD);
        due("1: lay none", x.lay(0, NONE), BAD);
    }

    private static void gate() {
        FerryQuay x = new FerryQuay();
        for (int i = 0; i < 16; i++) {
            due("2: gate", x.gate(), i);
            due("2: open at first", x.ofGate(i, 2), 0);
            dueGate("2: new", x, i, 0, 0);
        }
        due("2: a 17th", x.gate(), FULL);
        due("2: still 16", x.count(0), 16);
        due("2: none of number 16", x.ofGate(16, 0), BAD);
    }

    private static void ramp() {
        FerryQuay x = new FerryQuay();
        for (int limit : new int[] {LOW, -1, 0, 1001, HIGH}) {
            due("3: ramp(" + limit + ")", x.ramp(limit), BAD);
        }
        due("3: none made", x.count(1), 0);
        for (int i = 0; i < 16; i++) {
            int limit = i == 0 ? 1 : i == 1 ? 1000 : 10 * i;
            due("3: ramp(" + limit + ")", x.ramp(limit), i);
            due("3: its limit", x.ofRamp(i, 2), limit);
            dueRamp("3: new", x, i, 0, 0);
        }
        due("3: a 17th", x.ramp(5), FULL);
        due("3: BAD ahead of FULL", x.ramp(0), BAD);
        due("3: still 16", x.count(1), 16);
        due("3: none of number 16", x.ofRamp(16, 0), BAD);
    }

    private static void berth() {
        FerryQuay x = new FerryQuay();
        for (int room : new int[] {LOW, -1, 10001, HIGH}) {
            due("4: berth(" + room + ")", x.berth(room), BAD);
        }
        due("4: none made", x.count(2), 0);
        for (int i = 0; i < 8; i++) {
            int room = i == 0 ? 0 : i == 1 ? 10000 : 100 * i;
            due("4: berth(" + room + ")", x.berth(room), i);
            due("4: its room", x.state(i, 5), room);
            due("4: its gate", x.state(i, 0), NONE);
            due("4: its ramp", x.state(i, 1), NONE);
            dueLane("4: new", x, i);
            dueAboard("4: new", x, i);
        }
        due("4: a 9th", x.berth(5), FULL);
        due("4: BAD ahead of FULL", x.berth(-1), BAD);
        due("4: still 8", x.count(2), 8);
        due("4: none of number 8", x.state(8, 0), BAD);
    }

    private static void hinge() {
        FerryQuay x = new FerryQuay();
        x.berth(10);
        x.berth(10);
        due("5: no such gate yet", x.hinge(0, 0), BAD);
        x.gate();
        x.gate();
        due("5: first", x.hinge(0, 1), NONE);
        due("5: had 1", x.hinge(0, 0), 1);
        due("5: at several berths", x.hinge(1, 0), NONE);
        due("5: same again", x.hinge(0, 0), 0);
        for (int g : new int[] {LOW, -2, 2, 16, HIGH}) {
            due("5: hinge(0, " + g + ")", x.hinge(0, g), BAD);
        }
        for (int b : new int[] {LOW, -1, 2, 8, HIGH}) {
            due("5: hinge(" + b + ", 0)", x.hinge(b, 0), BAD);
            due("5: hinge(" + b + ", NONE)", x.hinge(b, NONE), BAD);
        }
        due("5: unchanged by BAD", x.state(0, 0), 0);
        due("5: none", x.hinge(0, NONE), 0);
        due("5: none again", x.hinge(0, NONE), NONE);
        due("5: the other keeps it", x.state(1, 0), 0);
        due("5: the ramp is another matter", x.state(1, 1), NONE);
        dueGate("5: not taken", x, 0, 0, 0);
    }

    private static void lay() {
        FerryQuay x = new FerryQuay();
        x.berth(10);
        x.berth(10);
        due("6: no such ramp yet", x.lay(0, 0), BAD);
        x.ramp(5);
        x.ramp(6);
        due("6: first", x.lay(0, 1), NONE);
        due("6: had 1", x.lay(0, 0), 1);
        due("6: at several berths", x.lay(1, 0), NONE);
        due("6: same again", x.lay(0, 0), 0);
        for (int r : new int[] {LOW, -2, 2, 16, HIGH}) {
            due("6: lay(0, " + r + ")", x.lay(0, r), BAD);
        }
        for (int b : new int[] {LOW, -1, 2, 8, HIGH}) {
            due("6: lay(" + b + ", 0)", x.lay(b, 0), BAD);
            due("6: lay(" + b + ", NONE)", x.lay(b, NONE), BAD);
        }
        due("6: unchanged by BAD", x.state(0, 1), 0);
        due("6: none", x.lay(0, NONE), 0);
        due("6: none again", x.lay(0, NONE), NONE);
        due("6: the other keeps it", x.state(1, 1), 0);
        due("6: the gate is another matter", x.state(1, 0), NONE);
        dueRamp("6: not taken", x, 0, 0, 0);
    }

    private static void shut() {
        FerryQuay x = new FerryQuay();
        x.gate();
        x.gate();
        due("7: was open", x.shut(0, true), 0);
        due("7: is shut", x.ofGate(0, 2), 1);
        due("7: the other is open", x.ofGate(1, 2), 0);
        due("7: was shut", x.shut(0, true), 1);
        due("7: was shut, opens", x.shut(0, false), 1);
        due("7: was open, opens", x.shut(0, false), 0);
        due("7: is open", x.ofGate(0, 2), 0);
        for (int g : new int[] {LOW, -1, 2, 16, HIGH}) {
            due("7: shut(" + g + ")", x.shut(g, true), BAD);
        }
        dueGate("7: not taken", x, 0, 0, 0);
    }

    private static void arrive() {
        FerryQuay x = new FerryQuay();
        x.berth(10);
        x.berth(10);
        for (int weight : new int[] {LOW, -1, 2001, HIGH}) {
            due("8: arrive(0, " + weight + ")", x.arrive(0, weight), BAD);
        }
        for (int b : new int[] {LOW, -1, 2, 8, HIGH}) {
            due("8: arrive(" + b + ", 5)", x.arrive(b, 5), BAD);
        }
        due("8: none arrived", x.count(3), 0);
        for (int i = 0; i < 30; i++) {
            due("8: arrive", x.arrive(0, i == 29 ? 2000 : i), i + 1);
        }
        due("8: a 31st", x.arrive(0, 5), FULL);
        due("8: BAD ahead of FULL", x.arrive(0, 2001), BAD);
        due("8: 30 arrived", x.count(3), 30);
        due("8: first", x.waiting(0, 0), 0);
        due("8: last", x.waiting(0, 29), 2000);
        due("8: behind", x.waiting(0, 30), NONE);
        due("8: the other lane", x.arrive(1, 7), 1);
        due("8: 31 arrived", x.count(3), 31);
    }

    private static void boardOrdinary() {
        FerryQuay x = quay(1, 1000, 300);
        arriveAll(x, 0, 100, 200, 300, 50);
        due("9: n-th", x.board(0, 2), 2);
        dueAboard("9: n-th", x, 0, 100, 200);
        dueLane("9: n-th", x, 0, 300, 50);
        dueGate("9: n-th", x, 0, 1, 2);
        dueRamp("9: n-th takes no more", x, 0, 2, 300);
        due("9: behind all", x.board(0, 30), 2);
        dueAboard("9: behind all", x, 0, 100, 200, 300, 50);
        dueLane("9: behind all", x, 0);
        dueGate("9: behind all", x, 0, 2, 4);
        dueRamp("9: behind all", x, 0, 4, 650);
        due("9: nobody", x.board(0, 1), 0);
        dueGate("9: nobody, but the gate is taken", x, 0, 3, 4);
        dueRamp("9: nobody", x, 0, 4, 650);
        dueCounts("9: ordinary", x, 0, 0, 0);
    }

    private static void boardStops() {
        FerryQuay x = quay(1, 1000, 300);
        arriveAll(x, 0, 10, 0, 20);
        x.shut(0, true);
        due("9: shut", x.board(0, 3), DENIED);
        dueGate("9: shut, but taken", x, 0, 1, 0);
        dueRamp("9: shut", x, 0, 0, 0);
        dueLane("9: shut", x, 0, 10, 0, 20);
        dueCounts("9: shut is no alarm", x, 0, 0, 0);
        x.shut(0, false);
        due("9: towed", x.board(0, 3), STALLED);
        dueLane("9: towed", x, 0, 20);
        dueAboard("9: ahead of towed", x, 0, 10);
        dueGate("9: towed", x, 0, 2, 1);
        dueRamp("9: towed", x, 0, 2, 10);
        dueCounts("9: towed", x, 0, 1, 1);
        x.lay(0, NONE);
        due("9: no ramp", x.board(0, 3), MISSING);
        dueGate("9: no ramp", x, 0, 3, 1);
        dueLane("9: no ramp", x, 0, 20);
        x.hinge(0, NONE);
        due("9: no gate", x.board(0, 3), MISSING);
        x.hinge(0, 0);
        x.shut(0, true);
        due("9: shut ahead of no ramp", x.board(0, 3), DENIED);
        dueCounts("9: missing is no alarm", x, 0, 1, 1);
        FerryQuay y = new FerryQuay();
        y.berth(5);
        y.gate();
        y.hinge(0, 0);
        due("9: an empty lane wants no ramp", y.board(0, 1), 0);
    }

    private static void boardTurns() {
        FerryQuay x = quay(1, 1000, 300);
        arriveAll(x, 0, 301, 300, 2000, 1);
        due("9: above the limit", x.board(0, 30), 2);
        dueLane("9: above the limit", x, 0, 301, 2000);
        dueAboard("9: above the limit", x, 0, 300, 1);
        dueRamp("9: above the limit", x, 0, 4, 301);
        due("9: one turn each", x.board(0, 1), 0);
        dueLane("9: one turn each", x, 0, 301, 2000);
        dueRamp("9: one turn each", x, 0, 6, 301);
        dueGate("9: one turn each", x, 0, 2, 2);
        arriveAll(x, 0, 700, 600);
        x.shut(0, false);
        x.ramp(1000);
        x.lay(0, 1);
        due("9: only the first turns", x.board(0, 1), 1);
        dueLane("9: fits now", x, 0, 2000, 700, 600);
        due("9: turned, then no room", x.board(0, 5), 0);
        dueLane("9: turned, then no room", x, 0, 700, 600, 2000);
        dueRamp("9: turned, then no room", x, 1, 3, 301);
        dueCounts("9: turns are no alarms", x, 0, 0, 0);
    }

    private static void boardFull() {
        FerryQuay x = quay(1, 10, 300);
        arriveAll(x, 0, 4, 6, 1);
        due("9: up to the room", x.board(0, 30), 2);
        dueAboard("9: up to the room", x, 0, 4, 6);
        dueLane("9: above the room", x, 0, 1);
        dueRamp("9: above the room", x, 0, 3, 10);
        FerryQuay y = quay(1, 10000, 300);
        for (int i = 0; i < 30; i++) {
            y.arrive(0, 1);
        }
        due("9: 30 at once", y.board(0, 30), 30);
        for (int i = 0; i < 11; i++) {
            y.arrive(0, 2);
        }
        due("9: up to 40", y.board(0, 30), 10);
        due("9: 40 aboard", y.state(0, 3), 40);
        dueLane("9: the 41st waits", y, 0, 2);
        due("9: 40 are aboard", y.board(0, 1), 0);
        dueRamp("9: 40 are aboard", y, 0, 42, 50);
        y.arrive(0, 0);
        due("9: no room ahead of one to tow", y.board(0, 1), 0);
        dueLane("9: no room ahead of one to tow", y, 0, 2, 0);
        FerryQuay z = quay(1, 0, 300);
        arriveAll(z, 0, 0, 301, 1);
        due("9: towed at no room", z.board(0, 1), STALLED);
        due("9: no room", z.board(0, 1), 0);
        dueLane("9: above the limit goes ahead of the room", z, 0, 1, 301);
    }

    private static void boardWrong() {
        FerryQuay x = quay(1, 1000, 300);
        x.arrive(0, 5);
        for (int n : new int[] {LOW, -1, 0, 31, HIGH}) {
            due("9: board(0, " + n + ")", x.board(0, n), BAD);
        }
        for (int b : new int[] {LOW, -1, 1, 8, HIGH}) {
            due("9: board(" + b + ", 1)", x.board(b, 1), BAD);
        }
        dueGate("9: BAD", x, 0, 0, 0);
        dueLane("9: BAD", x, 0, 5);
        x.hinge(0, NONE);
        due("9: BAD ahead of MISSING", x.board(0, 0), BAD);
    }

    private static void landOrdinary() {
        FerryQuay x = quay(1, 1000, 300);
        arriveAll(x, 0, 10, 20, 30, 40);
        x.board(0, 4);
        due("10: the last ones", x.land(0, 2), 2);
        dueAboard("10: the last ones", x, 0, 10, 20);
        dueGate("10: the last ones", x, 0, 3, 6);
        dueRamp("10: the last ones", x, 0, 5, 170);
        dueCounts("10: the last ones", x, 2, 0, 0);
        due("10: all the others", x.land(0, 40), 2);
        dueAboard("10: all the others", x, 0);
        dueGate("10: all the others", x, 0, 5, 8);
        dueRamp("10: all the others", x, 0, 6, 200);
        due("10: nobody", x.land(0, 1), 0);
        dueGate("10: nobody", x, 0, 5, 8);
        dueRamp("10: nobody, but the ramp is taken", x, 0, 7, 200);
        dueCounts("10: ordinary", x, 4, 0, 0);
    }

    private static void landHalf() {
        FerryQuay x = quay(1, 1000, 7);
        arriveAll(x, 0, 3, 4, 7, 1);
        x.board(0, 4);
        due("10: half the limit", x.land(0, 4), 4);
        dueGate("10: half the limit", x, 0, 5, 6);
        dueRamp("10: half the limit", x, 0, 5, 19);
        dueCounts("10: half the limit", x, 4, 0, 0);
        FerryQuay y = quay(1, 1000, 8);
        arriveAll(y, 0, 4, 5);
        y.board(0, 2);
        due("10: half of an even limit", y.land(0, 2), 2);
        dueGate("10: half of an even limit", y, 0, 3, 3);
        dueRamp("10: half of an even limit", y, 0, 3, 13);
        FerryQuay z = quay(1, 1000, 1);
        arriveAll(z, 0, 1);
        z.board(0, 1);
        due("10: half of 1", z.land(0, 1), 1);
        dueGate("10: half of 1", z, 0, 2, 1);
        dueRamp("10: half of 1", z, 0, 2, 1);
    }

    private static void landStops() {
        FerryQuay x = quay(1, 1000, 300);
        arriveAll(x, 0, 10, 200, 20);
        x.board(0, 3);
        x.shut(0, true);
        due("10: shut", x.land(0, 3), 0);
        dueGate("10: shut, but taken", x, 0, 2, 3);
        dueRamp("10: shut, but taken", x, 0, 4, 230);
        x.shut(0, false);
        x.ramp(50);
        x.lay(0, 1);
        due("10: above the limit", x.land(0, 3), STALLED);
        dueAboard("10: above the limit", x, 0, 10, 200);
        dueGate("10: above the limit", x, 0, 4, 4);
        dueRamp("10: above the limit", x, 1, 1, 20);
        dueCounts("10: above the limit", x, 1, 0, 1);
        x.shut(0, true);
        due("10: shut ahead of above the limit", x.land(0, 3), 0);
        dueCounts("10: shut is no alarm", x, 1, 0, 1);
        x.hinge(0, NONE);
        due("10: no gate", x.land(0, 3), MISSING);
        dueRamp("10: no gate, but the ramp is taken", x, 1, 3, 20);
        dueAboard("10: no gate", x, 0, 10, 200);
        x.hinge(0, 0);
        x.lay(0, NONE);
        due("10: no ramp", x.land(0, 3), MISSING);
        dueGate("10: no ramp", x, 0, 5, 4);
        dueCounts("10: missing is no alarm", x, 1, 0, 1);
        FerryQuay y = new FerryQuay();
        y.berth(5);
        y.ramp(5);
        y.lay(0, 0);
        due("10: an empty ferry wants no gate", y.land(0, 1), 0);
    }

    private static void landWrong() {
        FerryQuay x = quay(1, 1000, 300);
        x.arrive(0, 5);
        x.board(0, 1);
        for (int n : new int[] {LOW, -1, 0, 41, HIGH}) {
            due("10: land(0, " + n + ")", x.land(0, n), BAD);
        }
        for (int b : new int[] {LOW, -1, 1, 8, HIGH}) {
            due("10: land(" + b + ", 1)", x.land(b, 1), BAD);
        }
        dueRamp("10: BAD", x, 0, 1, 5);
        dueAboard("10: BAD", x, 0, 5);
        x.lay(0, NONE);
        due("10: BAD ahead of MISSING", x.land(0, 41), BAD);
    }

    private static void swap() {
        FerryQuay x = quay(3, 100, 100);
        x.berth(500);
        x.hinge(3, 0);
        arriveAll(x, 0, 5, 6, 7);
        x.board(0, 2);
        due("11: swap", x.swap(0, 3), 0);
        dueAboard("11: at a", x, 0);
        dueAboard("11: at b", x, 3, 5, 6);
        due("11: room at a", x.state(0, 5), 500);
        due("11: room at b", x.state(3, 5), 100);
        dueLane("11: lanes stay", x, 0, 7);
        dueGate("11: one and the same gate", x, 0, 3, 2);
        due("11: the load at a", x.swap(1, 3), 11);
        dueGate("11: nobody passed", x, 1, 1, 0);
        due("11: a and b are one", x.swap(1, 1), 11);
        dueAboard("11: a and b are one", x, 1, 5, 6);
        dueGate("11: a and b are one", x, 1, 3, 0);
        due("11: gates stay", x.state(3, 0), 0);
        due("11: ramps stay", x.state(1, 1), 1);
        x.board(0, 1);
        dueAboard("11: boards the ferry that is there", x, 0, 7);
        dueAboard("11: and no other", x, 3);
        dueCounts("11: swap", x, 0, 0, 0);
    }

    private static void swapStops() {
        FerryQuay x = quay(3, 100, 100);
        x.arrive(0, 5);
        x.board(0, 1);
        x.shut(1, true);
        due("11: b shut", x.swap(0, 1), DENIED);
        due("11: a shut", x.swap(1, 0), DENIED);
        due("11: both shut", x.swap(1, 1), DENIED);
        dueGate("11: shut, but taken", x, 0, 3, 1);
        dueGate("11: shut, but taken", x, 1, 4, 0);
        x.hinge(2, NONE);
        due("11: a missing", x.swap(2, 0), MISSING);
        dueGate("11: a missing", x, 0, 3, 1);
        due("11: b missing", x.swap(0, 2), MISSING);
        dueGate("11: b missing", x, 0, 4, 1);
        due("11: missing ahead of shut", x.swap(1, 2), MISSING);
        dueGate("11: missing ahead of shut", x, 1, 5, 0);
        for (int b : new int[] {LOW, -1, 3, 8, HIGH}) {
            due("11: swap(0, " + b + ")", x.swap(0, b), BAD);
            due("11: swap(" + b + ", 0)", x.swap(b, 0), BAD);
            due("11: BAD ahead of MISSING", x.swap(2, b), BAD);
        }
        dueGate("11: BAD", x, 0, 4, 1);
        dueAboard("11: nothing went", x, 0, 5);
        dueCounts("11: no alarms", x, 0, 0, 0);
    }

    private static void round() {
        FerryQuay x = quay(8, 100, 100);
        for (int b = 0; b < 8; b++) {
            x.arrive(b, b + 1);
            x.board(b, 1);
        }
        due("12: one", x.round(0, 1), 1);
        due("12: three", x.round(2, 3), 12);
        due("12: all", x.round(0, 8), 36);
        due("12: to the last one", x.round(6, 8), 15);
        due("12: the last one", x.round(7, 8), 8);
        dueGate("12: taken", x, 0, 3, 1);
        dueGate("12: taken", x, 1, 2, 1);
        dueGate("12: taken", x, 4, 3, 1);
        dueGate("12: taken", x, 5, 2, 1);
        dueGate("12: taken", x, 7, 4, 1);
        for (int most : new int[] {LOW, -1, 0, 9, HIGH}) {
            due("12: round(0, " + most + ")", x.round(0, most), BAD);
        }
        for (int b : new int[] {LOW, -1, 8, HIGH}) {
            due("12: round(" + b + ", 1)", x.round(b, 1), BAD);
        }
        dueGate("12: BAD", x, 0, 3, 1);
        dueCounts("12: ordinary", x, 0, 0, 0);
    }

    private static void roundStops() {
        FerryQuay x = quay(4, 100, 100);
        for (int b = 0; b < 4; b++) {
            x.arrive(b, 10 + b);
            x.board(b, 1);
        }
        x.hinge(1, 0);
        due("12: the same gate again", x.round(0, 2), 21);
        dueGate("12: the same gate again", x, 0, 3, 1);
        x.shut(2, true);
        due("12: shut", x.round(0, 4), DENIED);
        dueGate("12: ahead of shut", x, 0, 5, 1);
        dueGate("12: shut, but taken", x, 2, 2, 1);
        dueGate("12: behind shut", x, 3, 1, 1);
        dueCounts("12: shut", x, 0, 0, 1);
        due("12: ends ahead of the shut one", x.round(0, 2), 21);
        x.hinge(1, NONE);
        due("12: no gate", x.round(0, 4), 10);
        due("12: no gate at first", x.round(1, 4), 0);
        dueCounts("12: no gate", x, 0, 0, 1);
        due("12: BAD with no gate", x.round(1, 9), BAD);
    }

    private static void tend() {
        FerryQuay x = quay(1, 1000, 300);
        due("13: no wear", x.tend(0), DENIED);
        dueRamp("13: no wear, but taken", x, 0, 1, 0);
        dueCounts("13: no wear", x, 0, 0, 1);
        arriveAll(x, 0, 250, 40);
        x.board(0, 2);
        due("13: its wear", x.tend(0), 290);
        dueRamp("13: its wear", x, 0, 4, 0);
        dueCounts("13: its wear", x, 0, 0, 1);
        due("13: no wear again", x.tend(0), DENIED);
        x.land(0, 1);
        due("13: wear from landing", x.tend(0), 40);
        dueCounts("13: all", x, 1, 0, 2);
        for (int r : new int[] {LOW, -1, 1, 16, HIGH}) {
            due("13: tend(" + r + ")", x.tend(r), BAD);
        }
        dueCounts("13: BAD is no alarm", x, 1, 0, 2);
    }

    private static void shift() {
        FerryQuay x = quay(3, 1000, 300);
        arriveAll(x, 0, 1, 2, 0, 2000);
        arriveAll(x, 1, 9);
        due("14: so many", x.shift(0, 1, 2), 2);
        dueLane("14: so many", x, 0, 0, 2000);
        dueLane("14: so many", x, 1, 9, 1, 2);
        dueGate("14: so many, b", x, 0, 1, 2);
        dueGate("14: so many, c", x, 1, 2, 2);
        due("14: none left", x.shift(0, 1, 30), 2);
        dueLane("14: none left", x, 0);
        dueLane("14: none left", x, 1, 9, 1, 2, 0, 2000);
        dueGate("14: none left, b", x, 0, 2, 4);
        dueGate("14: none left, but c is taken", x, 1, 5, 4);
        due("14: none at all", x.shift(0, 1, 1), 0);
        dueGate("14: none at all, b", x, 0, 3, 4);
        dueGate("14: none at all, c", x, 1, 6, 4);
        x.hinge(2, 1);
        due("14: one and the same gate", x.shift(1, 2, 3), 3);
        dueLane("14: one and the same gate", x, 2, 9, 1, 2);
        dueGate("14: one and the same gate", x, 1, 10, 10);
        due("14: no more arrived", x.count(3), 5);
        dueRamp("14: no ramps", x, 0, 0, 0);
        dueCounts("14: shift", x, 0, 0, 0);
    }

    private static void shiftStops() {
        FerryQuay x = quay(2, 1000, 300);
        arriveAll(x, 0, 7, 8);
        x.shut(1, true);
        due("14: c shut", x.shift(0, 1, 2), 0);
        dueGate("14: c shut, b", x, 0, 1, 0);
        dueGate("14: c shut, but taken", x, 1, 1, 0);
        due("14: b shut", x.shift(1, 0, 2), DENIED);
        dueGate("14: b shut, but taken", x, 1, 2, 0);
        dueGate("14: b shut, c", x, 0, 1, 0);
        x.shut(1, false);
        for (int i = 0; i < 29; i++) {
            x.arrive(1, i);
        }
        due("14: 30 in c's lane", x.shift(0, 1, 2), 1);
        due("14: 30 in c's lane", x.state(1, 2), 30);
        due("14: the last of them", x.waiting(1, 29), 7);
        dueLane("14: 30 in c's lane", x, 0, 8);
        dueGate("14: 30 in c's lane, c", x, 1, 4, 1);
        x.hinge(1, NONE);
        due("14: c missing", x.shift(0, 1, 1), MISSING);
        dueGate("14: c missing, b", x, 0, 3, 1);
        due("14: b missing", x.shift(1, 0, 1), MISSING);
        dueGate("14: b missing, c", x, 0, 3, 1);
        x.shut(0, true);
        due("14: b shut ahead of c missing", x.shift(0, 1, 1), DENIED);
        x.shut(0, false);
        x.hinge(1, 1);
        x.board(0, 1);
        x.hinge(1, NONE);
        due("14: c missing with nobody in b's lane", x.shift(0, 1, 1), MISSING);
        dueCounts("14: no alarms", x, 0, 0, 0);
    }

    private static void shiftWrong() {
        FerryQuay x = quay(2, 1000, 300);
        x.arrive(0, 7);
        due("14: the same", x.shift(0, 0, 1), BAD);
        for (int n : new int[] {LOW, -1, 0, 31, HIGH}) {
            due("14: shift(0, 1, " + n + ")", x.shift(0, 1, n), BAD);
        }
        for (int b : new int[] {LOW, -1, 2, 8, HIGH}) {
            due("14: shift(" + b + ", 0, 1)", x.shift(b, 0, 1), BAD);
            due("14: shift(0, " + b + ", 1)", x.shift(0, b, 1), BAD);
        }
        x.shut(0, true);
        due("14: BAD ahead of DENIED", x.shift(0, 1, 0), BAD);
        x.hinge(0, NONE);
        due("14: BAD ahead of MISSING", x.shift(0, 0, 1), BAD);
        dueGate("14: BAD", x, 0, 0, 0);
        dueLane("14: BAD", x, 0, 7);
    }

    private static void state() {
        FerryQuay x = quay(2, 700, 300);
        x.hinge(0, 1);
        arriveAll(x, 0, 20, 30, 40);
        x.board(0, 2);
        int[] want = {1, 0, 1, 2, 50, 700};
        for (int what = 0; what < want.length; what++) {
            due("15: state(0, " + what + ")", x.state(0, what), want[what]);
        }
        for (int what : new int[] {LOW, -1, 6, HIGH}) {
            due("15: state(0, " + what + ")", x.state(0, what), BAD);
        }
        for (int b : new int[] {LOW, -1, 2, 8, HIGH}) {
            due("15: state(" + b + ", 0)", x.state(b, 0), BAD);
        }
    }

    private static void rows() {
        FerryQuay x = quay(1, 700, 300);
        arriveAll(x, 0, 20, 30, 40, 50, 60);
        x.board(0, 2);
        dueLane("16: waiting", x, 0, 40, 50, 60);
        dueAboard("17: aboard", x, 0, 20, 30);
        for (int i : new int[] {LOW, -1, 3, 29, 30, 31, HIGH}) {
            due("16: waiting(0, " + i + ")", x.waiting(0, i), NONE);
        }
        for (int i : new int[] {LOW, -1, 2, 39, 40, 41, HIGH}) {
            due("17: aboard(0, " + i + ")", x.aboard(0, i), NONE);
        }
        for (int b : new int[] {LOW, -1, 1, 8, HIGH}) {
            due("16: waiting(" + b + ", 0)", x.waiting(b, 0), BAD);
            due("16: waiting(" + b + ", -1)", x.waiting(b, -1), BAD);
            due("17: aboard(" + b + ", 0)", x.aboard(b, 0), BAD);
            due("17: aboard(" + b + ", -1)", x.aboard(b, -1), BAD);
        }
        x.land(0, 2);
        due("17: gone", x.aboard(0, 0), NONE);
    }

    private static void ofGate() {
        FerryQuay x = quay(1, 700, 300);
        arriveAll(x, 0, 20, 30);
        x.board(0, 2);
        x.shut(0, true);
        int[] want = {1, 2, 1};
        for (int what = 0; what < want.length; what++) {
            due("18: ofGate(0, " + what + ")", x.ofGate(0, what), want[what]);
        }
        for (int what : new int[] {LOW, -1, 3, HIGH}) {
            due("18: ofGate(0, " + what + ")", x.ofGate(0, what), BAD);
        }
        for (int g : new int[] {LOW, -1, 1, 16, HIGH}) {
            due("18: ofGate(" + g + ", 0)", x.ofGate(g, 0), BAD);
        }
    }

    private static void ofRamp() {
        FerryQuay x = quay(1, 700, 300);
        arriveAll(x, 0, 20, 30);
        x.board(0, 2);
        int[] want = {2, 50, 300};
        for (int what = 0; what < want.length; what++) {
            due("19: ofRamp(0, " + what + ")", x.ofRamp(0, what), want[what]);
        }
        for (int what : new int[] {LOW, -1, 3, HIGH}) {
            due("19: ofRamp(0, " + what + ")", x.ofRamp(0, what), BAD);
        }
        for (int r : new int[] {LOW, -1, 1, 16, HIGH}) {
            due("19: ofRamp(" + r + ", 0)", x.ofRamp(r, 0), BAD);
        }
    }

    private static void count() {
        FerryQuay x = quay(1, 700, 300);
        x.gate();
        x.gate();
        x.ramp(5);
        arriveAll(x, 0, 20, 0, 30, 0, 0, 7);
        x.board(0, 9);
        x.board(0, 9);
        x.board(0, 9);
        x.board(0, 9);
        x.land(0, 2);
        x.tend(1);
        int[] want = {3, 2, 1, 6, 2, 3, 4};
        for (int what = 0; what < want.length; what++) {
            due("20: count(" + what + ")", x.count(what), want[what]);
        }
        for (int what : new int[] {LOW, -1, 7, HIGH}) {
            due("20: count(" + what + ")", x.count(what), BAD);
        }
    }

    private static void objectsApart() {
        FerryQuay x = quay(2, 700, 300);
        FerryQuay y = new FerryQuay();
        due("1: another object has no gates", y.count(0), 0);
        due("1: another object begins at 0", y.berth(5), 0);
        due("1: and leaves the first alone", x.state(0, 5), 700);
    }
}
