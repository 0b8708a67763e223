import java.util.List;

/** The boundary cases of promises 1 to 8: what there is. */
public final class MakeEdgeTest {
    private static final int NONE = Run.NONE, BAD = Run.BAD, FULL = Run.FULL, MISSING = Run.MISSING,
        DENIED = Run.DENIED, STALLED = Run.STALLED;

    public static void main(String[] args) {
        Sentences.testAll(MakeEdgeTest.class);
    }

    // ---- promise 1

    @Sentence(promise = 1, words = "No GATES, RAMPS, BERTHS")
    static void newHasNothing(Run x) {
        x.due(x.count(0), 0);
        x.due(x.count(1), 0);
        x.due(x.count(2), 0);
        x.due(x.ofGate(0, 0), BAD);
        x.due(x.ofRamp(0, 0), BAD);
        x.due(x.state(0, 0), BAD);
        x.due(x.waiting(0, 0), BAD);
        x.due(x.aboard(0, 0), BAD);
    }

    @Sentence(promise = 1, words = "nothing was counted.")
    static void newHasCountedNothing(Run x) {
        new Run().buildBusy();
        x.due(x.count(3), 0);
        x.dueCounts(0, 0, 0);
    }

    @Sentence(promise = 1, words = "No GATES, RAMPS, BERTHS")
    static void newRefusesAllThatWantsOne(Run x) {
        x.due(x.hinge(0, NONE), BAD);
        x.due(x.lay(0, NONE), BAD);
        x.due(x.shut(0, true), BAD);
        x.due(x.arrive(0, 5), BAD);
        x.due(x.board(0, 1), BAD);
        x.due(x.land(0, 1), BAD);
        x.due(x.swap(0, 0), BAD);
        x.due(x.round(0, 1), BAD);
        x.due(x.tend(0), BAD);
        x.due(x.shift(0, 1, 1), BAD);
        x.dueUnchanged(new Run().all());
    }

    // ---- promise 2

    @Sentence(promise = 2, words = "A GATE: its number.")
    static void gateTellsItsNumber(Run x) {
        x.ramp(5);
        x.ramp(5);
        x.berth(5);
        x.due(x.gate(), 0);
        x.due(x.gate(), 1);
        x.due(x.count(0), 2);
    }

    @Sentence(promise = 2, words = "FULL.")
    static void the17thGateIsFull(Run x) {
        for (int g = 0; g < 15; g++) {
            x.gate();
        }
        x.due(x.gate(), 15);
        List<Integer> before = x.all();
        x.due(x.gate(), FULL);
        x.due(x.ofGate(16, 0), BAD);
        x.dueUnchanged(before);
    }

    @Sentence(promise = 2, words = "FULL.")
    static void fullGatesLeaveRoomForRampsAndBerths(Run x) {
        for (int g = 0; g < 17; g++) {
            x.gate();
        }
        x.due(x.ramp(5), 0);
        x.due(x.berth(5), 0);
        x.due(x.hinge(0, 15), NONE);
        x.due(x.shut(15, true), 0);
    }

    // ---- promise 3

    @Sentence(promise = 3, words = "BAD: limit.")
    static void limitTooSmall(Run x) {
        x.due(x.ramp(Run.LOW), BAD);
        x.due(x.ramp(-1), BAD);
        x.due(x.ramp(0), BAD);
        x.due(x.count(1), 0);
        x.due(x.ramp(1), 0);
    }

    @Sentence(promise = 3, words = "BAD: limit.")
    static void limitTooLarge(Run x) {
        x.due(x.ramp(Run.HIGH), BAD);
        x.due(x.ramp(1001), BAD);
        x.due(x.count(1), 0);
        x.due(x.ramp(1000), 0);
    }

    @Sentence(promise = 3, words = "FULL.")
    static void the17thRampIsFull(Run x) {
        for (int r = 0; r < 15; r++) {
            x.ramp(5);
        }
        x.due(x.ramp(5), 15);
        List<Integer> before = x.all();
        x.due(x.ramp(5), FULL);
        x.due(x.ofRamp(16, 0), BAD);
        x.dueUnchanged(before);
        x.due(x.gate(), 0);
        x.due(x.berth(5), 0);
        x.due(x.lay(0, 15), NONE);
    }

    @Sentence(promise = 3, words = "BAD: limit. FULL.", here = "BAD goes ahead of FULL")
    static void badLimitAheadOfFull(Run x) {
        for (int r = 0; r < 16; r++) {
            x.ramp(5);
        }
        x.due(x.ramp(0), BAD);
        x.due(x.ramp(1001), BAD);
        x.due(x.ramp(1), FULL);
        x.due(x.ramp(1000), FULL);
    }

    // ---- promise 4

    @Sentence(promise = 4, words = "BAD: room.")
    static void roomTooSmall(Run x) {
        x.due(x.berth(Run.LOW), BAD);
        x.due(x.berth(-1), BAD);
        x.due(x.count(2), 0);
        x.due(x.berth(0), 0);
    }

    @Sentence(promise = 4, words = "BAD: room.")
    static void roomTooLarge(Run x) {
        x.due(x.berth(Run.HIGH), BAD);
        x.due(x.berth(10001), BAD);
        x.due(x.count(2), 0);
        x.due(x.berth(10000), 0);
    }

    @Sentence(promise = 4, words = "FULL.")
    static void the9thBerthIsFull(Run x) {
        for (int b = 0; b < 7; b++) {
            x.berth(5);
        }
        x.due(x.berth(5), 7);
        List<Integer> before = x.all();
        x.due(x.berth(5), FULL);
        x.due(x.state(8, 0), BAD);
        x.dueUnchanged(before);
        x.due(x.gate(), 0);
        x.due(x.ramp(5), 0);
        x.due(x.arrive(7, 5), 1);
    }

    @Sentence(promise = 4, words = "BAD: room. FULL.", here = "BAD goes ahead of FULL")
    static void badRoomAheadOfFull(Run x) {
        for (int b = 0; b < 8; b++) {
            x.berth(5);
        }
        x.due(x.berth(-1), BAD);
        x.due(x.berth(10001), BAD);
        x.due(x.berth(0), FULL);
        x.due(x.berth(10000), FULL);
    }

    // ---- promise 5

    @Sentence(promise = 5, words = "which one it had, or NONE.")
    static void hingeTellsWhichItHad(Run x) {
        x.berth(5);
        for (int g = 0; g < 16; g++) {
            x.gate();
        }
        x.due(x.hinge(0, 15), NONE);
        x.due(x.hinge(0, 0), 15);
        x.due(x.hinge(0, 0), 0);
        x.due(x.state(0, 0), 0);
    }

    @Sentence(promise = 5, words = "(NONE: none)")
    static void hingeNone(Run x) {
        x.build(2, 5, 5);
        x.hinge(1, 0);
        x.due(x.hinge(0, NONE), 0);
        x.due(x.state(0, 0), NONE);
        x.due(x.hinge(0, NONE), NONE);
        x.due(x.state(0, 1), 0);
        x.due(x.state(1, 0), 0);
        x.due(x.board(0, 1), MISSING);
        x.due(x.board(1, 1), 0);
    }

    @Sentence(promise = 5, words = "from now on")
    static void hingeCountsAtTheNewGateOnly(Run x) {
        x.build(1, 5, 5);
        x.gate();
        x.board(0, 1);
        x.hinge(0, 1);
        x.board(0, 1);
        x.due(x.ofGate(0, 0), 1);
        x.due(x.ofGate(1, 0), 1);
    }

    @Sentence(promise = 5, words = "BERTH b has GATE g (NONE: none) from now on", here = "the GATE stays as it was")
    static void hingeKeepsWhatTheGateCounted(Run x) {
        x.build(1, 100, 50);
        x.arrive(0, 5);
        x.board(0, 1);
        x.shut(0, true);
        x.hinge(0, 0);
        x.dueGate(0, 1, 1);
        x.hinge(0, NONE);
        x.hinge(0, 0);
        x.dueGate(0, 1, 1);
        x.due(x.ofGate(0, 2), 1);
    }

    @Sentence(promise = 5, words = "BAD: b")
    static void hingeBadBerth(Run x) {
        x.build(2, 5, 5);
        List<Integer> before = x.all();
        for (int b : new int[] {Run.LOW, -1, 2, 8, Run.HIGH}) {
            x.due(x.hinge(b, 1), BAD);
            x.due(x.hinge(b, NONE), BAD);
        }
        x.dueUnchanged(before);
    }

    @Sentence(promise = 5, words = "BAD: .. g.")
    static void hingeBadGate(Run x) {
        x.build(2, 5, 5);
        x.ramp(5);
        List<Integer> before = x.all();
        for (int g : new int[] {Run.LOW, -2, 2, 16, Run.HIGH}) {
            x.due(x.hinge(1, g), BAD);
        }
        x.dueUnchanged(before);
        x.gate();
        x.due(x.hinge(1, 2), 1);
    }

    // ---- promise 6

    @Sentence(promise = 6, words = "which one it had, or NONE.")
    static void layTellsWhichItHad(Run x) {
        x.berth(5);
        for (int r = 0; r < 16; r++) {
            x.ramp(5);
        }
        x.due(x.lay(0, 15), NONE);
        x.due(x.lay(0, 0), 15);
        x.due(x.lay(0, 0), 0);
        x.due(x.state(0, 1), 0);
    }

    @Sentence(promise = 6, words = "(NONE: none)")
    static void layNone(Run x) {
        x.build(2, 5, 5);
        x.lay(1, 0);
        x.due(x.lay(0, NONE), 0);
        x.due(x.state(0, 1), NONE);
        x.due(x.lay(0, NONE), NONE);
        x.due(x.state(0, 0), 0);
        x.due(x.state(1, 1), 0);
        x.due(x.land(0, 1), MISSING);
        x.due(x.land(1, 1), 0);
    }

    @Sentence(promise = 6, words = "from now on")
    static void layCountsAtTheNewRampOnly(Run x) {
        x.build(1, 5, 5);
        x.ramp(5);
        x.land(0, 1);
        x.lay(0, 1);
        x.land(0, 1);
        x.due(x.ofRamp(0, 0), 1);
        x.due(x.ofRamp(1, 0), 1);
    }

    @Sentence(promise = 6, words = "BERTH b has RAMP r (NONE: none) from now on", here = "the RAMP stays as it was")
    static void layKeepsWhatTheRampCounted(Run x) {
        x.build(1, 100, 50);
        x.arrive(0, 5);
        x.board(0, 1);
        x.lay(0, 0);
        x.dueRamp(0, 1, 5);
        x.lay(0, NONE);
        x.lay(0, 0);
        x.dueRamp(0, 1, 5);
    }

    @Sentence(promise = 6, words = "BAD: b")
    static void layBadBerth(Run x) {
        x.build(2, 5, 5);
        List<Integer> before = x.all();
        for (int b : new int[] {Run.LOW, -1, 2, 8, Run.HIGH}) {
            x.due(x.lay(b, 1), BAD);
            x.due(x.lay(b, NONE), BAD);
        }
        x.dueUnchanged(before);
    }

    @Sentence(promise = 6, words = "BAD: .. r.")
    static void layBadRamp(Run x) {
        x.build(2, 5, 5);
        x.gate();
        List<Integer> before = x.all();
        for (int r : new int[] {Run.LOW, -2, 2, 16, Run.HIGH}) {
            x.due(x.lay(1, r), BAD);
        }
        x.dueUnchanged(before);
        x.ramp(5);
        x.due(x.lay(1, 2), 1);
    }

    // ---- promise 7

    @Sentence(promise = 7, words = "1 if it was SHUT, else 0.")
    static void shutTellsWhatItWas(Run x) {
        x.gate();
        x.gate();
        x.due(x.shut(0, false), 0);
        x.due(x.shut(0, true), 0);
        x.due(x.shut(0, true), 1);
        x.due(x.shut(1, true), 0);
        x.due(x.shut(0, false), 1);
        x.due(x.shut(0, false), 0);
        x.due(x.ofGate(0, 2), 0);
        x.due(x.ofGate(1, 2), 1);
    }

    @Sentence(promise = 7, words = "BAD: g.")
    static void shutBadGate(Run x) {
        x.build(1, 5, 5);
        x.ramp(5);
        x.berth(5);
        List<Integer> before = x.all();
        for (int g : new int[] {Run.LOW, -1, 1, 16, Run.HIGH}) {
            x.due(x.shut(g, true), BAD);
            x.due(x.shut(g, false), BAD);
        }
        x.dueUnchanged(before);
        x.gate();
        x.due(x.shut(1, true), 0);
    }

    // ---- promise 8

    @Sentence(promise = 8, words = "A vehicle comes to the end of BERTH b's LANE: how many are in it.")
    static void arriveAtTheEnd(Run x) {
        x.berth(5);
        x.berth(5);
        x.due(x.arrive(0, 7), 1);
        x.due(x.arrive(1, 8), 1);
        x.due(x.arrive(0, 9), 2);
        x.dueLane(0, 7, 9);
        x.dueLane(1, 8);
        x.due(x.count(3), 3);
    }

    @Sentence(promise = 8, words = "BAD: b")
    static void arriveBadBerth(Run x) {
        x.berth(5);
        x.gate();
        x.gate();
        List<Integer> before = x.all();
        for (int b : new int[] {Run.LOW, -1, 1, 8, Run.HIGH}) {
            x.due(x.arrive(b, 5), BAD);
        }
        x.dueUnchanged(before);
    }

    @Sentence(promise = 8, words = "BAD: .. weight.")
    static void arriveBadWeight(Run x) {
        x.berth(5);
        x.arrive(0, 5);
        List<Integer> before = x.all();
        for (int weight : new int[] {Run.LOW, -1, 2001, Run.HIGH}) {
            x.due(x.arrive(0, weight), BAD);
        }
        x.dueUnchanged(before);
        x.due(x.arrive(0, 0), 2);
        x.due(x.arrive(0, 2000), 3);
    }

    @Sentence(promise = 8, words = "FULL.")
    static void arriveFull(Run x) {
        x.berth(5);
        x.berth(5);
        x.arriveMany(0, 29, 5);
        x.due(x.arrive(0, 6), 30);
        List<Integer> before = x.all();
        x.due(x.arrive(0, 7), FULL);
        x.dueUnchanged(before);
        x.due(x.arrive(1, 8), 1);
    }

    @Sentence(words = "FULL, when there is no room for one more.", here = "in the LANE, till one has left it")
    static void arriveAgainWhenOneHasLeft(Run x) {
        x.build(2, 100, 50);
        x.arrive(0, 0);
        x.arriveMany(0, 29, 5);
        x.due(x.arrive(0, 6), FULL);
        x.due(x.board(0, 1), STALLED);
        x.due(x.arrive(0, 6), 30);
        x.due(x.arrive(0, 7), FULL);
        x.due(x.board(0, 1), 1);
        x.due(x.arrive(0, 7), 30);
        x.due(x.arrive(0, 8), FULL);
        x.due(x.shift(0, 1, 1), 1);
        x.due(x.arrive(0, 8), 30);
        x.due(x.waiting(0, 27), 6);
        x.due(x.waiting(0, 28), 7);
        x.due(x.waiting(0, 29), 8);
        x.due(x.count(3), 33);
    }

    @Sentence(promise = 8, words = "BAD: b, weight. FULL.", here = "BAD goes ahead of FULL")
    static void badWeightAheadOfFull(Run x) {
        x.berth(5);
        x.arriveMany(0, 30, 5);
        x.due(x.arrive(0, -1), BAD);
        x.due(x.arrive(0, 2001), BAD);
        x.due(x.arrive(1, 5), BAD);
        x.due(x.arrive(0, 0), FULL);
        x.due(x.arrive(0, 2000), FULL);
    }

    @Sentence(promise = 8, words = "A vehicle comes to the end of BERTH b's LANE")
    static void arriveWantsNoGateNoRampNoRoom(Run x) {
        x.berth(0);
        x.due(x.arrive(0, 2000), 1);
        x.gate();
        x.hinge(0, 0);
        x.shut(0, true);
        x.due(x.arrive(0, 2000), 2);
        x.due(x.board(0, 1), DENIED);
        x.due(x.ofGate(0, 0), 1);
    }
}
