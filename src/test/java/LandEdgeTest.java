import java.util.List;

/** The boundary cases of promise 10: land. */
public final class LandEdgeTest {
    private static final int NONE = Run.NONE, BAD = Run.BAD, MISSING = Run.MISSING, STALLED = Run.STALLED;

    public static void main(String[] args) {
        Sentences.testAll(LandEdgeTest.class);
    }

    /** One berth, with these aboard, all of them over ramp 0 of LIMIT 1000. */
    private static void buildAboard(Run x, int... weights) {
        x.build(1, 10000, 1000);
        x.arriveAll(0, weights);
        x.board(0, 30);
    }

    /** Another ramp, of this limit, at berth 0 from now on: ramp 1. */
    private static void layLimit(Run x, int limit) {
        x.ramp(limit);
        x.lay(0, 1);
    }

    // ---- the ramp

    @Sentence(promise = 10, words = "The RAMP is TAKEN.")
    static void rampIsTakenOnceACall(Run x) {
        buildAboard(x, 1, 2, 3);
        layLimit(x, 100);
        x.due(x.land(0, 3), 3);
        x.due(x.ofRamp(1, 0), 1);
        x.due(x.land(0, 3), 0);
        x.due(x.ofRamp(1, 0), 2);
    }

    // ---- the turns

    @Sentence(promise = 10, words = "Then n times")
    static void nTimesAndNoMore(Run x) {
        buildAboard(x, 1, 2, 3, 4);
        layLimit(x, 100);
        x.due(x.land(0, 3), 3);
        x.dueAboard(0, 1);
        x.dueGate(0, 4, 7);
        x.dueRamp(1, 1, 9);
        x.dueCounts(3, 0, 0);
    }

    @Sentence(promise = 10, words = "as long as there are vehicles aboard")
    static void emptyFerryEndsTheCall(Run x) {
        buildAboard(x, 1, 2);
        layLimit(x, 100);
        x.due(x.land(0, 40), 2);
        x.dueAboard(0);
        x.dueGate(0, 3, 4);
        x.dueRamp(1, 1, 3);
        x.dueCounts(2, 0, 0);
    }

    @Sentence(promise = 10, words = "as long as there are vehicles aboard")
    static void emptyFerryTakesNoGate(Run x) {
        x.build(1, 100, 50);
        x.due(x.land(0, 40), 0);
        x.dueGate(0, 0, 0);
        x.dueRamp(0, 1, 0);
        x.hinge(0, NONE);
        x.due(x.land(0, 1), 0);
        x.dueRamp(0, 2, 0);
        x.dueCounts(0, 0, 0);
    }

    @Sentence(promise = 10, words = "the GATE is TAKEN for the one that came last")
    static void theLastComesFirst(Run x) {
        buildAboard(x, 5, 6, 7);
        layLimit(x, 100);
        x.due(x.land(0, 1), 1);
        x.dueAboard(0, 5, 6);
        x.dueRamp(1, 1, 7);
        x.due(x.ofGate(0, 0), 2);
        x.arrive(0, 8);
        x.board(0, 1);
        x.due(x.land(0, 2), 2);
        x.dueAboard(0, 5);
        x.dueRamp(1, 3, 29);
        x.due(x.ofGate(0, 0), 5);
    }

    // ---- a shut gate

    @Sentence(promise = 10, words = "Is the GATE SHUT, the call is over: how many went ashore.")
    static void shutEndsTheCall(Run x) {
        buildAboard(x, 5, 6);
        x.shut(0, true);
        x.due(x.land(0, 2), 0);
        x.dueAboard(0, 5, 6);
        x.dueGate(0, 2, 2);
        x.dueRamp(0, 3, 11);
        x.dueCounts(0, 0, 0);
    }

    @Sentence(promise = 10, words = "Is the GATE SHUT, the call is over", here = "nobody aboard takes it")
    static void shutIsNotSeenByAnEmptyFerry(Run x) {
        x.build(1, 100, 50);
        x.shut(0, true);
        x.due(x.land(0, 2), 0);
        x.dueGate(0, 0, 0);
        x.dueRamp(0, 1, 0);
    }

    @Sentence(promise = 10,
        words = "Is the GATE SHUT, the call is over .. Above the RAMP's LIMIT .. that is an ALARM")
    static void shutGoesAheadOfAboveTheLimit(Run x) {
        buildAboard(x, 6);
        layLimit(x, 5);
        x.shut(0, true);
        x.due(x.land(0, 1), 0);
        x.dueCounts(0, 0, 0);
        x.shut(0, false);
        x.due(x.land(0, 1), STALLED);
        x.dueCounts(0, 0, 1);
    }

    // ---- above the limit

    @Sentence(promise = 10, words = "Above the RAMP's LIMIT (it stays aboard) that is an ALARM: STALLED.")
    static void aboveTheLimitStaysAboard(Run x) {
        buildAboard(x, 5, 101);
        layLimit(x, 100);
        x.due(x.land(0, 2), STALLED);
        x.dueAboard(0, 5, 101);
        x.dueGate(0, 2, 2);
        x.dueRamp(1, 1, 0);
        x.dueCounts(0, 0, 1);
    }

    @Sentence(promise = 10, words = "that is an ALARM: STALLED.", here = "what was done ahead of that stays")
    static void thoseAheadOfTheStalledAreGone(Run x) {
        buildAboard(x, 5, 101, 60, 50);
        layLimit(x, 100);
        x.due(x.land(0, 4), STALLED);
        x.dueAboard(0, 5, 101);
        x.dueGate(0, 4, 5);
        x.dueRamp(1, 1, 50);
        x.dueCounts(2, 0, 1);
    }

    @Sentence(promise = 10, words = "Above the RAMP's LIMIT")
    static void theLimitItselfIsNotAbove(Run x) {
        buildAboard(x, 100);
        layLimit(x, 100);
        x.due(x.land(0, 1), 1);
        x.dueAboard(0);
        x.dueCounts(1, 0, 0);
    }

    @Sentence(promise = 10, words = "Then n times", here = "the n-th ends the call ahead of one above the LIMIT")
    static void theNthEndsTheCallAheadOfAboveTheLimit(Run x) {
        buildAboard(x, 101, 5);
        layLimit(x, 100);
        x.due(x.land(0, 1), 1);
        x.dueAboard(0, 101);
        x.dueGate(0, 2, 3);
        x.dueCounts(1, 0, 0);
    }

    // ---- half the limit

    @Sentence(promise = 10,
        words = "more than half the LIMIT .. it goes ashore, and is GONE (counted), but not through the GATE")
    static void aboveHalfTheLimitIsGoneBesideTheGate(Run x) {
        buildAboard(x, 51);
        layLimit(x, 100);
        x.due(x.land(0, 1), 1);
        x.dueAboard(0);
        x.dueGate(0, 2, 1);
        x.dueRamp(1, 1, 0);
        x.dueCounts(1, 0, 0);
    }

    @Sentence(promise = 10,
        words = "else it goes ashore through the GATE, and is GONE, and the RAMP's WEAR is its WEIGHT more.")
    static void halfTheLimitGoesThroughTheGate(Run x) {
        buildAboard(x, 50);
        layLimit(x, 100);
        x.due(x.land(0, 1), 1);
        x.dueAboard(0);
        x.dueGate(0, 2, 2);
        x.dueRamp(1, 1, 50);
        x.dueCounts(1, 0, 0);
    }

    @Sentence(promise = 10, words = "half the LIMIT (cut off)")
    static void halfOfAnOddLimitIsCutOff(Run x) {
        buildAboard(x, 50, 51);
        layLimit(x, 101);
        x.due(x.land(0, 1), 1);
        x.dueGate(0, 2, 2);
        x.dueRamp(1, 1, 0);
        x.due(x.land(0, 1), 1);
        x.dueGate(0, 3, 3);
        x.dueRamp(1, 2, 50);
        x.dueCounts(2, 0, 0);
    }

    @Sentence(promise = 10, words = "half the LIMIT (cut off)", here = "a LIMIT of 1: 0")
    static void halfOf1Is0(Run x) {
        buildAboard(x, 1);
        layLimit(x, 1);
        x.due(x.land(0, 1), 1);
        x.dueGate(0, 2, 1);
        x.dueRamp(1, 1, 0);
        x.dueCounts(1, 0, 0);
    }

    @Sentence(promise = 10, words = "half the LIMIT (cut off)", here = "a LIMIT of 1000: 500")
    static void halfOf1000Is500(Run x) {
        buildAboard(x, 500, 501, 1000);
        x.due(x.land(0, 2), 2);
        x.dueGate(0, 3, 3);
        x.dueRamp(0, 4, 2001);
        x.due(x.land(0, 1), 1);
        x.dueGate(0, 4, 4);
        x.dueRamp(0, 5, 2501);
    }

    @Sentence(promise = 10, words = "but not through the GATE, and the next one's turn comes")
    static void theNextOnesTurnComes(Run x) {
        buildAboard(x, 10, 90, 20, 80, 100);
        layLimit(x, 100);
        x.due(x.land(0, 4), 4);
        x.dueAboard(0, 10);
        x.dueGate(0, 5, 6);
        x.dueRamp(1, 1, 20);
        x.dueCounts(4, 0, 0);
    }

    // ---- the answer

    @Sentence(promise = 10, words = "Behind all of them: how many went ashore.")
    static void bothWaysAshoreAreTold(Run x) {
        buildAboard(x, 60, 50, 70, 40);
        layLimit(x, 100);
        x.due(x.land(0, 40), 4);
        x.dueCounts(4, 0, 0);
        x.due(x.land(0, 40), 0);
    }

    // ---- refused

    @Sentence(promise = 10, words = "BAD: b")
    static void badBerth(Run x) {
        x.buildBusy();
        List<Integer> before = x.all();
        for (int b : new int[] {Run.LOW, -1, 2, 8, Run.HIGH}) {
            x.due(x.land(b, 1), BAD);
        }
        x.dueUnchanged(before);
    }

    @Sentence(promise = 10, words = "BAD: .. n not 1 .. 40.")
    static void badN(Run x) {
        x.buildBusy();
        List<Integer> before = x.all();
        for (int n : new int[] {Run.LOW, -1, 0, 41, Run.HIGH}) {
            x.due(x.land(0, n), BAD);
        }
        x.dueUnchanged(before);
    }

    @Sentence(promise = 10, words = "n not 1 .. 40.")
    static void nIs1Or40(Run x) {
        x.build(1, 10000, 1000);
        x.arriveMany(0, 30, 1);
        x.board(0, 30);
        x.arriveMany(0, 10, 1);
        x.board(0, 30);
        x.due(x.land(0, 1), 1);
        x.arrive(0, 1);
        x.board(0, 1);
        x.due(x.land(0, 40), 40);
        x.dueAboard(0);
        x.dueCounts(41, 0, 0);
    }

    @Sentence(promise = 10, words = "n not 1 .. 40.", here = "31, more than a LANE holds")
    static void nMayBeMoreThanALaneHolds(Run x) {
        buildAboard(x, 1, 2);
        x.due(x.land(0, 31), 2);
    }

    @Sentence(promise = 10, words = "BAD: b, n not 1 .. 40. MISSING.", here = "BAD goes first")
    static void badNGoesAheadOfMissing(Run x) {
        x.berth(100);
        x.due(x.land(0, 0), BAD);
        x.due(x.land(0, 41), BAD);
        x.due(x.land(0, 40), MISSING);
    }

    @Sentence(promise = 10, words = "Is the GATE SHUT, the call is over .. BAD: b, n not 1 .. 40.",
        here = "BAD goes first")
    static void badNGoesAheadOfShut(Run x) {
        buildAboard(x, 5);
        x.shut(0, true);
        x.due(x.land(0, 0), BAD);
        x.due(x.land(0, 41), BAD);
        x.dueGate(0, 1, 1);
        x.due(x.land(0, 40), 0);
    }

    @Sentence(promise = 10, words = "MISSING.", here = "no RAMP")
    static void noRampIsMissing(Run x) {
        buildAboard(x, 5, 6);
        x.lay(0, NONE);
        x.due(x.land(0, 1), MISSING);
        x.dueAboard(0, 5, 6);
        x.dueGate(0, 1, 2);
        x.dueCounts(0, 0, 0);
    }

    @Sentence(promise = 10, words = "MISSING.", here = "no RAMP, and nobody aboard")
    static void noRampIsMissingWithAnEmptyFerry(Run x) {
        x.build(1, 100, 50);
        x.lay(0, NONE);
        x.due(x.land(0, 1), MISSING);
        x.dueGate(0, 0, 0);
    }

    @Sentence(promise = 10, words = "The RAMP is TAKEN .. the GATE is TAKEN",
        here = "no RAMP goes ahead of a SHUT GATE")
    static void noRampGoesAheadOfShut(Run x) {
        buildAboard(x, 5, 6);
        x.lay(0, NONE);
        x.shut(0, true);
        x.due(x.land(0, 1), MISSING);
        x.dueGate(0, 1, 2);
    }

    @Sentence(promise = 10, words = "MISSING.", here = "no GATE")
    static void noGateIsMissing(Run x) {
        buildAboard(x, 5, 101);
        layLimit(x, 100);
        x.hinge(0, NONE);
        x.due(x.land(0, 1), MISSING);
        x.dueAboard(0, 5, 101);
        x.dueRamp(1, 1, 0);
        x.dueCounts(0, 0, 0);
    }

    @Sentence(promise = 10, words = "MISSING.", here = "neither")
    static void neitherIsMissing(Run x) {
        buildAboard(x, 5);
        x.hinge(0, NONE);
        x.lay(0, NONE);
        List<Integer> before = x.all();
        x.due(x.land(0, 1), MISSING);
        x.dueUnchanged(before);
    }
}
