import java.util.List;

/** The boundary cases of promise 14: shift. */
public final class ShiftEdgeTest {
    private static final int NONE = Run.NONE, BAD = Run.BAD, MISSING = Run.MISSING, DENIED = Run.DENIED;

    public static void main(String[] args) {
        Sentences.testAll(ShiftEdgeTest.class);
    }

    // ---- who goes

    @Sentence(promise = 14,
        words = "From BERTH b's LANE the first n vehicles go, one by one, to the end of BERTH c's")
    static void theFirstNGoToTheEnd(Run x) {
        x.build(3, 100, 50);
        x.arriveAll(0, 1, 2, 3);
        x.arriveAll(1, 8, 9);
        x.due(x.shift(0, 1, 2), 2);
        x.dueLane(0, 3);
        x.dueLane(1, 8, 9, 1, 2);
        x.dueLane(2);
    }

    @Sentence(promise = 14, words = "the first n vehicles go", here = "whatever they weigh, and no RAMP is TAKEN")
    static void anyWeightGoes(Run x) {
        x.build(2, 0, 1);
        x.arriveAll(0, 0, 2000, 1);
        x.lay(1, NONE);
        x.due(x.shift(0, 1, 30), 3);
        x.dueLane(0);
        x.dueLane(1, 0, 2000, 1);
        x.dueRamp(0, 0, 0);
        x.dueRamp(1, 0, 0);
        x.due(x.count(3), 3);
        x.dueCounts(0, 0, 0);
    }

    @Sentence(promise = 14, words = "the first n vehicles go, one by one", here = "30")
    static void aWholeLaneGoes(Run x) {
        x.build(2, 100, 50);
        for (int i = 0; i < 30; i++) {
            x.arrive(0, i);
        }
        x.due(x.shift(0, 1, 30), 30);
        x.dueLane(0);
        x.due(x.state(1, 2), 30);
        for (int i = 0; i < 30; i++) {
            x.due(x.waiting(1, i), i);
        }
        x.dueGate(0, 1, 30);
        x.dueGate(1, 30, 30);
    }

    // ---- the gates

    @Sentence(promise = 14, words = "b's GATE is TAKEN, then, for each of them, c's GATE")
    static void gatesAreTakenOnceAndForEach(Run x) {
        x.build(2, 100, 50);
        x.arriveAll(0, 1, 2, 3, 4);
        x.due(x.shift(0, 1, 3), 3);
        x.due(x.ofGate(0, 0), 1);
        x.due(x.ofGate(1, 0), 3);
    }

    @Sentence(promise = 14, words = "Is c's SHUT, the call is over: how many went")
    static void cShutEndsTheCall(Run x) {
        x.build(2, 100, 50);
        x.arriveAll(0, 1, 2);
        x.shut(1, true);
        x.due(x.shift(0, 1, 2), 0);
        x.dueLane(0, 1, 2);
        x.dueLane(1);
        x.dueGate(0, 1, 0);
        x.dueGate(1, 1, 0);
        x.dueCounts(0, 0, 0);
    }

    @Sentence(promise = 14, words = "are there 30 in c's LANE: likewise")
    static void cFullEndsTheCall(Run x) {
        x.build(2, 100, 50);
        x.arriveAll(0, 1, 2);
        x.arriveMany(1, 30, 7);
        x.due(x.shift(0, 1, 2), 0);
        x.dueLane(0, 1, 2);
        x.due(x.state(1, 2), 30);
        x.due(x.waiting(1, 29), 7);
        x.dueGate(0, 1, 0);
        x.dueGate(1, 1, 0);
        x.dueCounts(0, 0, 0);
    }

    @Sentence(promise = 14, words = "are there 30 in c's LANE: likewise", here = "how many went")
    static void cFullOnTheWay(Run x) {
        x.build(2, 100, 50);
        x.arriveAll(0, 1, 2, 3);
        x.arriveMany(1, 28, 7);
        x.due(x.shift(0, 1, 3), 2);
        x.dueLane(0, 3);
        x.due(x.state(1, 2), 30);
        x.due(x.waiting(1, 27), 7);
        x.due(x.waiting(1, 28), 1);
        x.due(x.waiting(1, 29), 2);
        x.dueGate(0, 1, 2);
        x.dueGate(1, 3, 2);
    }

    @Sentence(promise = 14, words = "are there none left in b's: likewise", here = "how many went")
    static void bEmptyOnTheWay(Run x) {
        x.build(2, 100, 50);
        x.arriveAll(0, 1, 2);
        x.due(x.shift(0, 1, 3), 2);
        x.dueLane(0);
        x.dueLane(1, 1, 2);
        x.dueGate(0, 1, 2);
        x.dueGate(1, 3, 2);
        x.dueCounts(0, 0, 0);
    }

    @Sentence(promise = 14, words = "are there none left in b's: likewise")
    static void bEmptyAtFirst(Run x) {
        x.build(2, 100, 50);
        x.arrive(1, 7);
        x.due(x.shift(0, 1, 30), 0);
        x.dueLane(0);
        x.dueLane(1, 7);
        x.dueGate(0, 1, 0);
        x.dueGate(1, 1, 0);
    }

    @Sentence(promise = 14, words = "Each goes through both GATES.")
    static void eachPassesBothGates(Run x) {
        x.build(2, 100, 50);
        x.arriveAll(0, 1, 2, 3);
        x.due(x.shift(0, 1, 2), 2);
        x.due(x.ofGate(0, 1), 2);
        x.due(x.ofGate(1, 1), 2);
    }

    @Sentence(promise = 14, words = "Each goes through both GATES.", here = "one and the same")
    static void eachPassesTheOneGateTwice(Run x) {
        x.build(2, 100, 50);
        x.hinge(1, 0);
        x.arriveAll(0, 1, 2, 3);
        x.due(x.shift(0, 1, 2), 2);
        x.dueLane(0, 3);
        x.dueLane(1, 1, 2);
        x.dueGate(0, 3, 4);
        x.dueGate(1, 0, 0);
    }

    @Sentence(promise = 14, words = "Behind all of them: how many went.")
    static void behindAllOfThem(Run x) {
        x.build(2, 100, 50);
        x.arriveAll(0, 1, 2);
        x.due(x.shift(0, 1, 1), 1);
        x.due(x.shift(0, 1, 1), 1);
        x.dueLane(1, 1, 2);
        x.dueGate(0, 2, 2);
        x.dueGate(1, 2, 2);
        x.due(x.shift(0, 1, 1), 0);
    }

    @Sentence(promise = 14, words = "Behind all of them: how many went.", here = "to a LANE that is full then")
    static void theLastPlaceIsUsed(Run x) {
        x.build(2, 100, 50);
        x.arrive(0, 5);
        x.arriveMany(1, 29, 7);
        x.due(x.shift(0, 1, 1), 1);
        x.dueLane(0);
        x.due(x.state(1, 2), 30);
        x.due(x.waiting(1, 29), 5);
        x.dueGate(1, 1, 1);
    }

    // ---- refused

    @Sentence(promise = 14, words = "BAD: b")
    static void badB(Run x) {
        x.buildBusy();
        List<Integer> before = x.all();
        for (int b : new int[] {Run.LOW, -1, 2, 8, Run.HIGH}) {
            x.due(x.shift(b, 0, 1), BAD);
            x.due(x.shift(b, 1, 1), BAD);
        }
        x.dueUnchanged(before);
    }

    @Sentence(promise = 14, words = "BAD: .. c")
    static void badC(Run x) {
        x.buildBusy();
        List<Integer> before = x.all();
        for (int c : new int[] {Run.LOW, -1, 2, 8, Run.HIGH}) {
            x.due(x.shift(0, c, 1), BAD);
            x.due(x.shift(1, c, 1), BAD);
        }
        x.dueUnchanged(before);
    }

    @Sentence(promise = 14, words = "BAD: .. they are the same")
    static void badSame(Run x) {
        x.buildBusy();
        List<Integer> before = x.all();
        x.due(x.shift(0, 0, 1), BAD);
        x.due(x.shift(1, 1, 30), BAD);
        x.dueUnchanged(before);
    }

    @Sentence(promise = 14, words = "BAD: .. n not 1 .. 30.")
    static void badN(Run x) {
        x.buildBusy();
        List<Integer> before = x.all();
        for (int n : new int[] {Run.LOW, -1, 0, 31, 40, Run.HIGH}) {
            x.due(x.shift(0, 1, n), BAD);
        }
        x.dueUnchanged(before);
    }

    @Sentence(promise = 14,
        words = "BAD: b, c, they are the same; n not 1 .. 30. MISSING; b's GATE is SHUT: DENIED.")
    static void badGoesAheadOfMissingAndDenied(Run x) {
        x.build(2, 100, 50);
        x.arrive(0, 5);
        x.shut(0, true);
        x.due(x.shift(0, 0, 1), BAD);
        x.due(x.shift(0, 1, 0), BAD);
        x.due(x.shift(0, 2, 1), BAD);
        x.hinge(0, NONE);
        x.due(x.shift(0, 0, 1), BAD);
        x.due(x.shift(0, 1, 31), BAD);
        x.due(x.shift(0, 2, 1), BAD);
        x.due(x.shift(1, 0, 31), BAD);
        x.dueGate(0, 0, 0);
        x.dueGate(1, 0, 0);
    }

    @Sentence(promise = 14, words = "MISSING", here = "b has no GATE")
    static void noGateAtB(Run x) {
        x.buildBusy();
        x.hinge(0, NONE);
        List<Integer> before = x.all();
        x.due(x.shift(0, 1, 1), MISSING);
        x.dueUnchanged(before);
    }

    @Sentence(promise = 14, words = "MISSING", here = "c has no GATE; what was done ahead of that stays")
    static void noGateAtC(Run x) {
        x.build(2, 100, 50);
        x.arriveAll(0, 1, 2);
        x.hinge(1, NONE);
        x.due(x.shift(0, 1, 1), MISSING);
        x.dueLane(0, 1, 2);
        x.dueLane(1);
        x.dueGate(0, 1, 0);
        x.dueCounts(0, 0, 0);
    }

    @Sentence(promise = 14, words = "MISSING", here = "c has no GATE; ahead of the look at the LANES")
    static void noGateAtCWithNobodyToGoOrNoPlace(Run x) {
        x.build(2, 100, 50);
        x.hinge(1, NONE);
        x.due(x.shift(0, 1, 1), MISSING);
        x.arrive(0, 1);
        x.arriveMany(1, 30, 7);
        x.due(x.shift(0, 1, 1), MISSING);
        x.dueGate(0, 2, 0);
    }

    @Sentence(promise = 14, words = "b's GATE is SHUT: DENIED.")
    static void bShutIsDenied(Run x) {
        x.build(2, 100, 50);
        x.arriveAll(0, 1, 2);
        x.shut(0, true);
        x.due(x.shift(0, 1, 1), DENIED);
        x.dueLane(0, 1, 2);
        x.dueLane(1);
        x.dueGate(0, 1, 0);
        x.dueGate(1, 0, 0);
        x.dueCounts(0, 0, 0);
    }

    @Sentence(promise = 14, words = "b's GATE is SHUT: DENIED.",
        here = "with nobody in b's LANE, and with c's SHUT too")
    static void bShutIsDeniedWhateverElse(Run x) {
        x.build(2, 100, 50);
        x.shut(0, true);
        x.due(x.shift(0, 1, 1), DENIED);
        x.shut(1, true);
        x.due(x.shift(0, 1, 1), DENIED);
        x.hinge(1, 0);
        x.due(x.shift(0, 1, 1), DENIED);
        x.hinge(1, NONE);
        x.due(x.shift(0, 1, 1), DENIED);
        x.dueGate(0, 4, 0);
        x.dueGate(1, 0, 0);
        x.dueCounts(0, 0, 0);
    }
}
